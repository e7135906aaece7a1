def q_putBytes (T : Nat → ClassId) (t0 : Nat) (four : Int32) (k : Nat) (t1 : Nat) (f : Nat → Int32) : Option Value → va_W → Prop := fun rr ww => (∃ (k2 : Nat) (g : Nat → Int32), rr = none ∧ ww = [(t0, .inr (2, [.int (nI k2), .int (nI 0), .int (-1), .ref t1, .int (nI 0), .int (nI 0), .int (nI 0), .int (nI 0)])), (t1, .inl (T 3, 900, .inl g))] ∧ k2 = k + 4)
set_option maxHeartbeats 4000000 in
set_option maxRecDepth 100000 in
theorem c_putBytes (l : Launch) (D : va_G) (T : Nat → ClassId) (t0 : Nat) (four : Int32) (k : Nat) (t1 : Nat) (f : Nat → Int32) (h_k : k + 4 ≤ 900) : Ct l yX2_putBytes cX2_putBytes 3 none 0 0 0 D T [.ref t0, .int four] [(t0, .inr (2, [.int (nI k), .int (nI 0), .int (-1), .ref t1, .int (nI 0), .int (nI 0), .int (nI 0), .int (nI 0)])), (t1, .inl (T 3, 900, .inl f))] (q_putBytes T t0 four k t1 f) := by
  refine Ct.of (cc := cX2_putBytes) (maxL := 3) (ret := none) (by decide) (Nat.le_of_ble_eq_true rfl) ?_
  intro p e s m args below meth c A ls hC hnm V hl
  obtain ⟨hx, hb, hr, hml, hown, hts, hlocks⟩ := id hC
  generalize hH : s.heap = H at V ⊢
  clear hH
  have hl : lv_has ls 3 [(0, .ref t0), (1, .int four)] := hl
  generalize hlo : ([] : List Loc) = locs at V ⊢
  clear hlo
  refine lv_bipush (v := (nI 24)) hx hb dX2_putBytes_0 (by decide +kernel) ?_
  refine lv_istore_n (lv' := [(2, .int (nI 24)), (0, .ref t0), (1, .int four)]) hx hb dX2_putBytes_2 rfl hl (by decide) rfl (fun ls hl => ?_)
  refine lv_iload_n hx hb dX2_putBytes_3 rfl (lv_at hl 0 rfl) ?_
  refine lv_if_lt (tgt := 46) hx hb dX2_putBytes_4 (by decide) (fun c => absurd (show (nI 24) < 0 from c) (by decide +kernel)) (fun _ => ?_)
  refine lv_aload_n hx hb dX2_putBytes_7 rfl (lv_at hl 1 rfl) ?_
  refine g_get hC V (ci := 2) uwX2 0 rfl rfl 0 (by decide) w_129 rfl rfl dX2_putBytes_8 ?_
  refine lv_sipush (v := (nI 900)) hx hb dX2_putBytes_11 (by decide +kernel) ?_
  refine lv_icmp_ge (tgt := 46) hx hb dX2_putBytes_14 (by decide) (fun c_1 => ?_) (fun c_1 => ?_)
  · skip
    have c_1 := b_le (by omega) (by omega) c_1
    exact (by omega : False).elim
  · skip
    have c_1 := b_nle (by omega) (by omega) c_1
    refine lv_aload_n hx hb dX2_putBytes_17 rfl (lv_at hl 1 rfl) ?_
    refine g_get hC V (ci := 2) uwX2 0 rfl rfl 3 (by decide) w_134 rfl rfl dX2_putBytes_18 ?_
    refine lv_aload_n hx hb dX2_putBytes_21 rfl (lv_at hl 1 rfl) ?_
    refine g_get hC V (ci := 2) uwX2 0 rfl rfl 0 (by decide) w_129 rfl rfl dX2_putBytes_22 ?_
    refine lv_iload_n hx hb dX2_putBytes_25 rfl (lv_at hl 2 rfl) ?_
    refine lv_iload_n hx hb dX2_putBytes_26 rfl (lv_at hl 0 rfl) ?_
    refine lv_ishr hx hb dX2_putBytes_27 ?_
    refine lv_i2b hx hb dX2_putBytes_28 rfl ?_
    refine g_bast hC V 1 rfl (vp_in_nI (by omega) (by omega)) (f' := (upd f k (vp_nar .byte (((four >>> ((nI 24) &&& 31))).toInt8.toInt32)))) (by rw [nI_clamp (by omega)]) (ws' := [(t0, .inr (2, [.int (nI k), .int (nI 0), .int (-1), .ref t1, .int (nI 0), .int (nI 0), .int (nI 0), .int (nI 0)])), (t1, .inl (T 3, 900, .inl (upd f k (vp_nar .byte (((four >>> ((nI 24) &&& 31))).toInt8.toInt32)))))]) rfl dX2_putBytes_29 (fun H locs V => ?_)
    refine lv_aload_n hx hb dX2_putBytes_30 rfl (lv_at hl 1 rfl) ?_
    refine lv_dup hx hb dX2_putBytes_31 rfl ?_
    refine g_get hC V (ci := 2) uwX2 0 rfl rfl 0 (by decide) w_129 rfl rfl dX2_putBytes_32 ?_
    refine lv_iconst (v := (nI 1)) hx hb dX2_putBytes_35 (by decide +kernel) ?_
    refine lv_iadd hx hb dX2_putBytes_36 ?_
    refine g_vi (y := (nI (k + 1))) (nI_add _ _) ?_
    refine g_put hC V (ci := 2) uwX2 tyX2 tyX2_ok nmX2 0 rfl rfl 0 (by decide) w_129 rfl rfl rfl rfl (Nat.le_of_ble_eq_true rfl) (ws' := [(t0, .inr (2, [.int (nI (k + 1)), .int (nI 0), .int (-1), .ref t1, .int (nI 0), .int (nI 0), .int (nI 0), .int (nI 0)])), (t1, .inl (T 3, 900, .inl (upd f k (vp_nar .byte (((four >>> ((nI 24) &&& 31))).toInt8.toInt32)))))]) rfl dX2_putBytes_37 (fun H locs V => ?_)
    refine lv_iinc (v := (nI 16)) (lv' := [(2, .int (nI 16)), (0, .ref t0), (1, .int four)]) hx hb dX2_putBytes_40 hl (k := 0) rfl (by decide +kernel) (by decide) rfl (fun ls hl => ?_)
    refine lv_goto (tgt := 3) hx hb dX2_putBytes_43 (by decide) ?_
    refine lv_iload_n hx hb dX2_putBytes_3 rfl (lv_at hl 0 rfl) ?_
    refine lv_if_lt (tgt := 46) hx hb dX2_putBytes_4 (by decide) (fun c => absurd (show (nI 16) < 0 from c) (by decide +kernel)) (fun _ => ?_)
    refine lv_aload_n hx hb dX2_putBytes_7 rfl (lv_at hl 1 rfl) ?_
    refine g_get hC V (ci := 2) uwX2 0 rfl rfl 0 (by decide) w_129 rfl rfl dX2_putBytes_8 ?_
    refine lv_sipush (v := (nI 900)) hx hb dX2_putBytes_11 (by decide +kernel) ?_
    refine lv_icmp_ge (tgt := 46) hx hb dX2_putBytes_14 (by decide) (fun c_2 => ?_) (fun c_2 => ?_)
    · skip
      have c_2 := b_le (by omega) (by omega) c_2
      exact (by omega : False).elim
    · skip
      have c_2 := b_nle (by omega) (by omega) c_2
      refine lv_aload_n hx hb dX2_putBytes_17 rfl (lv_at hl 1 rfl) ?_
      refine g_get hC V (ci := 2) uwX2 0 rfl rfl 3 (by decide) w_134 rfl rfl dX2_putBytes_18 ?_
      refine lv_aload_n hx hb dX2_putBytes_21 rfl (lv_at hl 1 rfl) ?_
      refine g_get hC V (ci := 2) uwX2 0 rfl rfl 0 (by decide) w_129 rfl rfl dX2_putBytes_22 ?_
      refine lv_iload_n hx hb dX2_putBytes_25 rfl (lv_at hl 2 rfl) ?_
      refine lv_iload_n hx hb dX2_putBytes_26 rfl (lv_at hl 0 rfl) ?_
      refine lv_ishr hx hb dX2_putBytes_27 ?_
      refine lv_i2b hx hb dX2_putBytes_28 rfl ?_
      refine g_bast hC V 1 rfl (vp_in_nI (by omega) (by omega)) (f' := (upd (upd f k (vp_nar .byte (((four >>> ((nI 24) &&& 31))).toInt8.toInt32))) (k + 1) (vp_nar .byte (((four >>> ((nI 16) &&& 31))).toInt8.toInt32)))) (by rw [nI_clamp (by omega)]) (ws' := [(t0, .inr (2, [.int (nI (k + 1)), .int (nI 0), .int (-1), .ref t1, .int (nI 0), .int (nI 0), .int (nI 0), .int (nI 0)])), (t1, .inl (T 3, 900, .inl (upd (upd f k (vp_nar .byte (((four >>> ((nI 24) &&& 31))).toInt8.toInt32))) (k + 1) (vp_nar .byte (((four >>> ((nI 16) &&& 31))).toInt8.toInt32)))))]) rfl dX2_putBytes_29 (fun H locs V => ?_)
      refine lv_aload_n hx hb dX2_putBytes_30 rfl (lv_at hl 1 rfl) ?_
      refine lv_dup hx hb dX2_putBytes_31 rfl ?_
      refine g_get hC V (ci := 2) uwX2 0 rfl rfl 0 (by decide) w_129 rfl rfl dX2_putBytes_32 ?_
      refine lv_iconst (v := (nI 1)) hx hb dX2_putBytes_35 (by decide +kernel) ?_
      refine lv_iadd hx hb dX2_putBytes_36 ?_
      refine g_vi (y := (nI ((k + 1) + 1))) (nI_add _ _) ?_
      refine g_put hC V (ci := 2) uwX2 tyX2 tyX2_ok nmX2 0 rfl rfl 0 (by decide) w_129 rfl rfl rfl rfl (Nat.le_of_ble_eq_true rfl) (ws' := [(t0, .inr (2, [.int (nI ((k + 1) + 1)), .int (nI 0), .int (-1), .ref t1, .int (nI 0), .int (nI 0), .int (nI 0), .int (nI 0)])), (t1, .inl (T 3, 900, .inl (upd (upd f k (vp_nar .byte (((four >>> ((nI 24) &&& 31))).toInt8.toInt32))) (k + 1) (vp_nar .byte (((four >>> ((nI 16) &&& 31))).toInt8.toInt32)))))]) rfl dX2_putBytes_37 (fun H locs V => ?_)
      refine lv_iinc (v := (nI 8)) (lv' := [(2, .int (nI 8)), (0, .ref t0), (1, .int four)]) hx hb dX2_putBytes_40 hl (k := 0) rfl (by decide +kernel) (by decide) rfl (fun ls hl => ?_)
      refine lv_goto (tgt := 3) hx hb dX2_putBytes_43 (by decide) ?_
      refine lv_iload_n hx hb dX2_putBytes_3 rfl (lv_at hl 0 rfl) ?_
      refine lv_if_lt (tgt := 46) hx hb dX2_putBytes_4 (by decide) (fun c => absurd (show (nI 8) < 0 from c) (by decide +kernel)) (fun _ => ?_)
      refine lv_aload_n hx hb dX2_putBytes_7 rfl (lv_at hl 1 rfl) ?_
      refine g_get hC V (ci := 2) uwX2 0 rfl rfl 0 (by decide) w_129 rfl rfl dX2_putBytes_8 ?_
      refine lv_sipush (v := (nI 900)) hx hb dX2_putBytes_11 (by decide +kernel) ?_
      refine lv_icmp_ge (tgt := 46) hx hb dX2_putBytes_14 (by decide) (fun c_3 => ?_) (fun c_3 => ?_)
      · skip
        have c_3 := b_le (by omega) (by omega) c_3
        exact (by omega : False).elim
      · skip
        have c_3 := b_nle (by omega) (by omega) c_3
        refine lv_aload_n hx hb dX2_putBytes_17 rfl (lv_at hl 1 rfl) ?_
        refine g_get hC V (ci := 2) uwX2 0 rfl rfl 3 (by decide) w_134 rfl rfl dX2_putBytes_18 ?_
        refine lv_aload_n hx hb dX2_putBytes_21 rfl (lv_at hl 1 rfl) ?_
        refine g_get hC V (ci := 2) uwX2 0 rfl rfl 0 (by decide) w_129 rfl rfl dX2_putBytes_22 ?_
        refine lv_iload_n hx hb dX2_putBytes_25 rfl (lv_at hl 2 rfl) ?_
        refine lv_iload_n hx hb dX2_putBytes_26 rfl (lv_at hl 0 rfl) ?_
        refine lv_ishr hx hb dX2_putBytes_27 ?_
        refine lv_i2b hx hb dX2_putBytes_28 rfl ?_
        refine g_bast hC V 1 rfl (vp_in_nI (by omega) (by omega)) (f' := (upd (upd (upd f k (vp_nar .byte (((four >>> ((nI 24) &&& 31))).toInt8.toInt32))) (k + 1) (vp_nar .byte (((four >>> ((nI 16) &&& 31))).toInt8.toInt32))) ((k + 1) + 1) (vp_nar .byte (((four >>> ((nI 8) &&& 31))).toInt8.toInt32)))) (by rw [nI_clamp (by omega)]) (ws' := [(t0, .inr (2, [.int (nI ((k + 1) + 1)), .int (nI 0), .int (-1), .ref t1, .int (nI 0), .int (nI 0), .int (nI 0), .int (nI 0)])), (t1, .inl (T 3, 900, .inl (upd (upd (upd f k (vp_nar .byte (((four >>> ((nI 24) &&& 31))).toInt8.toInt32))) (k + 1) (vp_nar .byte (((four >>> ((nI 16) &&& 31))).toInt8.toInt32))) ((k + 1) + 1) (vp_nar .byte (((four >>> ((nI 8) &&& 31))).toInt8.toInt32)))))]) rfl dX2_putBytes_29 (fun H locs V => ?_)
        refine lv_aload_n hx hb dX2_putBytes_30 rfl (lv_at hl 1 rfl) ?_
        refine lv_dup hx hb dX2_putBytes_31 rfl ?_
        refine g_get hC V (ci := 2) uwX2 0 rfl rfl 0 (by decide) w_129 rfl rfl dX2_putBytes_32 ?_
        refine lv_iconst (v := (nI 1)) hx hb dX2_putBytes_35 (by decide +kernel) ?_
        refine lv_iadd hx hb dX2_putBytes_36 ?_
        refine g_vi (y := (nI (((k + 1) + 1) + 1))) (nI_add _ _) ?_
        refine g_put hC V (ci := 2) uwX2 tyX2 tyX2_ok nmX2 0 rfl rfl 0 (by decide) w_129 rfl rfl rfl rfl (Nat.le_of_ble_eq_true rfl) (ws' := [(t0, .inr (2, [.int (nI (((k + 1) + 1) + 1)), .int (nI 0), .int (-1), .ref t1, .int (nI 0), .int (nI 0), .int (nI 0), .int (nI 0)])), (t1, .inl (T 3, 900, .inl (upd (upd (upd f k (vp_nar .byte (((four >>> ((nI 24) &&& 31))).toInt8.toInt32))) (k + 1) (vp_nar .byte (((four >>> ((nI 16) &&& 31))).toInt8.toInt32))) ((k + 1) + 1) (vp_nar .byte (((four >>> ((nI 8) &&& 31))).toInt8.toInt32)))))]) rfl dX2_putBytes_37 (fun H locs V => ?_)
        refine lv_iinc (v := (nI 0)) (lv' := [(2, .int (nI 0)), (0, .ref t0), (1, .int four)]) hx hb dX2_putBytes_40 hl (k := 0) rfl (by decide +kernel) (by decide) rfl (fun ls hl => ?_)
        refine lv_goto (tgt := 3) hx hb dX2_putBytes_43 (by decide) ?_
        refine lv_iload_n hx hb dX2_putBytes_3 rfl (lv_at hl 0 rfl) ?_
        refine lv_if_lt (tgt := 46) hx hb dX2_putBytes_4 (by decide) (fun c => absurd (show (nI 0) < 0 from c) (by decide +kernel)) (fun _ => ?_)
        refine lv_aload_n hx hb dX2_putBytes_7 rfl (lv_at hl 1 rfl) ?_
        refine g_get hC V (ci := 2) uwX2 0 rfl rfl 0 (by decide) w_129 rfl rfl dX2_putBytes_8 ?_
        refine lv_sipush (v := (nI 900)) hx hb dX2_putBytes_11 (by decide +kernel) ?_
        refine lv_icmp_ge (tgt := 46) hx hb dX2_putBytes_14 (by decide) (fun c_4 => ?_) (fun c_4 => ?_)
        · skip
          have c_4 := b_le (by omega) (by omega) c_4
          exact (by omega : False).elim
        · skip
          have c_4 := b_nle (by omega) (by omega) c_4
          refine lv_aload_n hx hb dX2_putBytes_17 rfl (lv_at hl 1 rfl) ?_
          refine g_get hC V (ci := 2) uwX2 0 rfl rfl 3 (by decide) w_134 rfl rfl dX2_putBytes_18 ?_
          refine lv_aload_n hx hb dX2_putBytes_21 rfl (lv_at hl 1 rfl) ?_
          refine g_get hC V (ci := 2) uwX2 0 rfl rfl 0 (by decide) w_129 rfl rfl dX2_putBytes_22 ?_
          refine lv_iload_n hx hb dX2_putBytes_25 rfl (lv_at hl 2 rfl) ?_
          refine lv_iload_n hx hb dX2_putBytes_26 rfl (lv_at hl 0 rfl) ?_
          refine lv_ishr hx hb dX2_putBytes_27 ?_
          refine lv_i2b hx hb dX2_putBytes_28 rfl ?_
          refine g_bast hC V 1 rfl (vp_in_nI (by omega) (by omega)) (f' := (upd (upd (upd (upd f k (vp_nar .byte (((four >>> ((nI 24) &&& 31))).toInt8.toInt32))) (k + 1) (vp_nar .byte (((four >>> ((nI 16) &&& 31))).toInt8.toInt32))) ((k + 1) + 1) (vp_nar .byte (((four >>> ((nI 8) &&& 31))).toInt8.toInt32))) (((k + 1) + 1) + 1) (vp_nar .byte (((four >>> ((nI 0) &&& 31))).toInt8.toInt32)))) (by rw [nI_clamp (by omega)]) (ws' := [(t0, .inr (2, [.int (nI (((k + 1) + 1) + 1)), .int (nI 0), .int (-1), .ref t1, .int (nI 0), .int (nI 0), .int (nI 0), .int (nI 0)])), (t1, .inl (T 3, 900, .inl (upd (upd (upd (upd f k (vp_nar .byte (((four >>> ((nI 24) &&& 31))).toInt8.toInt32))) (k + 1) (vp_nar .byte (((four >>> ((nI 16) &&& 31))).toInt8.toInt32))) ((k + 1) + 1) (vp_nar .byte (((four >>> ((nI 8) &&& 31))).toInt8.toInt32))) (((k + 1) + 1) + 1) (vp_nar .byte (((four >>> ((nI 0) &&& 31))).toInt8.toInt32)))))]) rfl dX2_putBytes_29 (fun H locs V => ?_)
          refine lv_aload_n hx hb dX2_putBytes_30 rfl (lv_at hl 1 rfl) ?_
          refine lv_dup hx hb dX2_putBytes_31 rfl ?_
          refine g_get hC V (ci := 2) uwX2 0 rfl rfl 0 (by decide) w_129 rfl rfl dX2_putBytes_32 ?_
          refine lv_iconst (v := (nI 1)) hx hb dX2_putBytes_35 (by decide +kernel) ?_
          refine lv_iadd hx hb dX2_putBytes_36 ?_
          refine g_vi (y := (nI ((((k + 1) + 1) + 1) + 1))) (nI_add _ _) ?_
          refine g_put hC V (ci := 2) uwX2 tyX2 tyX2_ok nmX2 0 rfl rfl 0 (by decide) w_129 rfl rfl rfl rfl (Nat.le_of_ble_eq_true rfl) (ws' := [(t0, .inr (2, [.int (nI ((((k + 1) + 1) + 1) + 1)), .int (nI 0), .int (-1), .ref t1, .int (nI 0), .int (nI 0), .int (nI 0), .int (nI 0)])), (t1, .inl (T 3, 900, .inl (upd (upd (upd (upd f k (vp_nar .byte (((four >>> ((nI 24) &&& 31))).toInt8.toInt32))) (k + 1) (vp_nar .byte (((four >>> ((nI 16) &&& 31))).toInt8.toInt32))) ((k + 1) + 1) (vp_nar .byte (((four >>> ((nI 8) &&& 31))).toInt8.toInt32))) (((k + 1) + 1) + 1) (vp_nar .byte (((four >>> ((nI 0) &&& 31))).toInt8.toInt32)))))]) rfl dX2_putBytes_37 (fun H locs V => ?_)
          refine lv_iinc (v := (-8)) (lv' := [(2, .int (-8)), (0, .ref t0), (1, .int four)]) hx hb dX2_putBytes_40 hl (k := 0) rfl (by decide +kernel) (by decide) rfl (fun ls hl => ?_)
          refine lv_goto (tgt := 3) hx hb dX2_putBytes_43 (by decide) ?_
          refine lv_iload_n hx hb dX2_putBytes_3 rfl (lv_at hl 0 rfl) ?_
          refine lv_if_lt (tgt := 46) hx hb dX2_putBytes_4 (by decide) (fun _ => ?_) (fun c => absurd (show (-8 : Int32) < 0 by decide +kernel) c)
          exact g_vret (Qr := (q_putBytes T t0 four k t1 f)) hC V ⟨(Nat.le_of_ble_eq_true rfl), (Nat.le_of_ble_eq_true rfl)⟩ ⟨((((k + 1) + 1) + 1) + 1), (upd (upd (upd (upd f k (vp_nar .byte (((four >>> ((nI 24) &&& 31))).toInt8.toInt32))) (k + 1) (vp_nar .byte (((four >>> ((nI 16) &&& 31))).toInt8.toInt32))) ((k + 1) + 1) (vp_nar .byte (((four >>> ((nI 8) &&& 31))).toInt8.toInt32))) (((k + 1) + 1) + 1) (vp_nar .byte (((four >>> ((nI 0) &&& 31))).toInt8.toInt32))), rfl, rfl, (by omega)⟩ dX2_putBytes_46

def q_X7_feed (T : Nat → ClassId) (o : Nat) (va : Int32) (vb : Int32) (vc : Int32) (vd : Int32) (ve : Int32) (n0 : Nat) (s0 : Nat) (im : Nat) (iz : Nat) (rw : Nat) (t0 : Nat) (u0 : Nat) (h0 : Nat) (y0 : Nat) (t1 : Nat) : Option Value → va_W → Prop := fun rr ww => (∃ (z : Int32), rr = some (.int z) ∧ ww = [] ∧ z = nI 20)
set_option maxHeartbeats 4000000 in
set_option maxRecDepth 100000 in
theorem p_X7_feed (l : Launch) (D : va_G) (T : Nat → ClassId) (o : Nat) (va : Int32) (vb : Int32) (vc : Int32) (vd : Int32) (ve : Int32) (n0 : Nat) (s0 : Nat) (im : Nat) (iz : Nat) (rw : Nat) (t0 : Nat) (u0 : Nat) (h0 : Nat) (y0 : Nat) (t1 : Nat) : Ct l yX7_feed cX7_feed 6 (some .int) 1 0 0 D T [.ref o, .int va, .int vb, .int vc, .int vd, .int ve] [(o, .inr (7, [.ref n0, .ref s0, .ref im, .ref iz, .ref rw, .ref t0, .ref u0, .ref h0, .ref y0, .null])), (t0, .inr (2, [.int (nI 0), .int (nI 0), .int (-1), .ref t1, .int (nI 0), .int (nI 0), .int (nI 0), .int (nI 0)])), (t1, .inl (T 3, 900, .inl (fun _ => nI 0)))] (q_X7_feed T o va vb vc vd ve n0 s0 im iz rw t0 u0 h0 y0 t1) := by
  refine Ct.of (cc := cX7_feed) (maxL := 6) (ret := (some .int)) (by decide) (Nat.le_of_ble_eq_true rfl) ?_
  intro p e s m args below meth c A ls hC hnm V hl
  obtain ⟨hx, hb, hr, hml, hown, hts, hlocks⟩ := id hC
  generalize hH : s.heap = H at V ⊢
  clear hH
  have hl : lv_has ls 6 [(0, .ref o), (1, .int va), (2, .int vb), (3, .int vc), (4, .int vd), (5, .int ve)] := hl
  generalize hlo : ([] : List Loc) = locs at V ⊢
  clear hlo
  refine lv_aload_n hx hb dX7_feed_0 rfl (lv_at hl 0 rfl) ?_
  refine g_get hC V (ci := 7) uwX7 0 rfl rfl 5 (by decide) w_254 rfl rfl dX7_feed_1 ?_
  refine g_get hC V (ci := 2) uwX2 1 rfl rfl 0 (by decide) w_128 rfl rfl dX7_feed_4 ?_
  refine lv_bipush (v := (nI 20)) hx hb dX7_feed_7 (by decide +kernel) ?_
  refine lv_iadd hx hb dX7_feed_9 ?_
  refine g_vi (y := (nI 20)) (by decide +kernel) ?_
  refine lv_sipush (v := (nI 900)) hx hb dX7_feed_10 (by decide +kernel) ?_
  refine lv_icmp_le (tgt := 19) hx hb dX7_feed_13 (by decide) (fun _ => ?_) (fun c => absurd (show (nI 20) ≤ (nI 900) by first | rfl | decide +kernel) c)
  refine lv_aload_n hx hb dX7_feed_19 rfl (lv_at hl 0 rfl) ?_
  refine g_get hC V (ci := 7) uwX7 0 rfl rfl 5 (by decide) w_254 rfl rfl dX7_feed_20 ?_
  refine lv_iload_n hx hb dX7_feed_23 rfl (lv_at hl 1 rfl) ?_
  refine g_callV (wr := [(o, .inr (7, [.ref n0, .ref s0, .ref im, .ref iz, .ref rw, .ref t0, .ref u0, .ref h0, .ref y0, .null]))]) (nA := 1) hC V hl.1 (c_putBytes l D T t0 va 0 t1 (fun _ => nI 0) (by first | assumption | omega | decide)) w_284 w_285 w_286 w_4 w_287 (by decide +kernel) rfl ⟨(Nat.le_of_ble_eq_true rfl), (Nat.le_of_ble_eq_true rfl)⟩ 1 (ci := 2) rfl rfl [1, 2] [0] rfl rfl rfl rfl (by decide) (Nat.le_of_ble_eq_true rfl) dX7_feed_24 ⟨(Nat.le_of_ble_eq_true rfl), (Nat.le_of_ble_eq_true rfl)⟩ rfl (fun r w1 H locs hQ V => ?_)
  obtain ⟨k2_1, g_2, rfl, rfl, f_3⟩ := hQ
  have V : gW D T A s [(o, .inr (7, [.ref n0, .ref s0, .ref im, .ref iz, .ref rw, .ref t0, .ref u0, .ref h0, .ref y0, .null])), (t0, .inr (2, [.int (nI k2_1), .int (nI 0), .int (-1), .ref t1, .int (nI 0), .int (nI 0), .int (nI 0), .int (nI 0)])), (t1, .inl (T 3, 900, .inl g_2))] H locs := V
  show W p l e _ s m args below meth c H locs _ _ _ (F0 m 27 ls [])
  refine lv_aload_n hx hb dX7_feed_27 rfl (lv_at hl 0 rfl) ?_
  refine g_get hC V (ci := 7) uwX7 0 rfl rfl 5 (by decide) w_254 rfl rfl dX7_feed_28 ?_
  refine lv_iload_n hx hb dX7_feed_31 rfl (lv_at hl 2 rfl) ?_
  refine g_callV (wr := [(o, .inr (7, [.ref n0, .ref s0, .ref im, .ref iz, .ref rw, .ref t0, .ref u0, .ref h0, .ref y0, .null]))]) (nA := 1) hC V hl.1 (c_putBytes l D T t0 vb k2_1 t1 g_2 (by first | assumption | omega | decide)) w_284 w_285 w_286 w_4 w_287 (by decide +kernel) rfl ⟨(Nat.le_of_ble_eq_true rfl), (Nat.le_of_ble_eq_true rfl)⟩ 1 (ci := 2) rfl rfl [1, 2] [0] rfl rfl rfl rfl (by decide) (Nat.le_of_ble_eq_true rfl) dX7_feed_32 ⟨(Nat.le_of_ble_eq_true rfl), (Nat.le_of_ble_eq_true rfl)⟩ rfl (fun r w1 H locs hQ V => ?_)
  obtain ⟨k2_4, g_5, rfl, rfl, f_6⟩ := hQ
  have V : gW D T A s [(o, .inr (7, [.ref n0, .ref s0, .ref im, .ref iz, .ref rw, .ref t0, .ref u0, .ref h0, .ref y0, .null])), (t0, .inr (2, [.int (nI k2_4), .int (nI 0), .int (-1), .ref t1, .int (nI 0), .int (nI 0), .int (nI 0), .int (nI 0)])), (t1, .inl (T 3, 900, .inl g_5))] H locs := V
  show W p l e _ s m args below meth c H locs _ _ _ (F0 m 35 ls [])
  refine lv_aload_n hx hb dX7_feed_35 rfl (lv_at hl 0 rfl) ?_
  refine g_get hC V (ci := 7) uwX7 0 rfl rfl 5 (by decide) w_254 rfl rfl dX7_feed_36 ?_
  refine lv_iload_n hx hb dX7_feed_39 rfl (lv_at hl 3 rfl) ?_
  refine g_callV (wr := [(o, .inr (7, [.ref n0, .ref s0, .ref im, .ref iz, .ref rw, .ref t0, .ref u0, .ref h0, .ref y0, .null]))]) (nA := 1) hC V hl.1 (c_putBytes l D T t0 vc k2_4 t1 g_5 (by first | assumption | omega | decide)) w_284 w_285 w_286 w_4 w_287 (by decide +kernel) rfl ⟨(Nat.le_of_ble_eq_true rfl), (Nat.le_of_ble_eq_true rfl)⟩ 1 (ci := 2) rfl rfl [1, 2] [0] rfl rfl rfl rfl (by decide) (Nat.le_of_ble_eq_true rfl) dX7_feed_40 ⟨(Nat.le_of_ble_eq_true rfl), (Nat.le_of_ble_eq_true rfl)⟩ rfl (fun r w1 H locs hQ V => ?_)
  obtain ⟨k2_7, g_8, rfl, rfl, f_9⟩ := hQ
  have V : gW D T A s [(o, .inr (7, [.ref n0, .ref s0, .ref im, .ref iz, .ref rw, .ref t0, .ref u0, .ref h0, .ref y0, .null])), (t0, .inr (2, [.int (nI k2_7), .int (nI 0), .int (-1), .ref t1, .int (nI 0), .int (nI 0), .int (nI 0), .int (nI 0)])), (t1, .inl (T 3, 900, .inl g_8))] H locs := V
  show W p l e _ s m args below meth c H locs _ _ _ (F0 m 43 ls [])
  refine lv_aload_n hx hb dX7_feed_43 rfl (lv_at hl 0 rfl) ?_
  refine g_get hC V (ci := 7) uwX7 0 rfl rfl 5 (by decide) w_254 rfl rfl dX7_feed_44 ?_
  refine lv_iload hx hb dX7_feed_47 (lv_at hl 4 rfl) ?_
  refine g_callV (wr := [(o, .inr (7, [.ref n0, .ref s0, .ref im, .ref iz, .ref rw, .ref t0, .ref u0, .ref h0, .ref y0, .null]))]) (nA := 1) hC V hl.1 (c_putBytes l D T t0 vd k2_7 t1 g_8 (by first | assumption | omega | decide)) w_284 w_285 w_286 w_4 w_287 (by decide +kernel) rfl ⟨(Nat.le_of_ble_eq_true rfl), (Nat.le_of_ble_eq_true rfl)⟩ 1 (ci := 2) rfl rfl [1, 2] [0] rfl rfl rfl rfl (by decide) (Nat.le_of_ble_eq_true rfl) dX7_feed_49 ⟨(Nat.le_of_ble_eq_true rfl), (Nat.le_of_ble_eq_true rfl)⟩ rfl (fun r w1 H locs hQ V => ?_)
  obtain ⟨k2_10, g_11, rfl, rfl, f_12⟩ := hQ
  have V : gW D T A s [(o, .inr (7, [.ref n0, .ref s0, .ref im, .ref iz, .ref rw, .ref t0, .ref u0, .ref h0, .ref y0, .null])), (t0, .inr (2, [.int (nI k2_10), .int (nI 0), .int (-1), .ref t1, .int (nI 0), .int (nI 0), .int (nI 0), .int (nI 0)])), (t1, .inl (T 3, 900, .inl g_11))] H locs := V
  show W p l e _ s m args below meth c H locs _ _ _ (F0 m 52 ls [])
  refine lv_aload_n hx hb dX7_feed_52 rfl (lv_at hl 0 rfl) ?_
  refine g_get hC V (ci := 7) uwX7 0 rfl rfl 5 (by decide) w_254 rfl rfl dX7_feed_53 ?_
  refine lv_iload hx hb dX7_feed_56 (lv_at hl 5 rfl) ?_
  refine g_callV (wr := [(o, .inr (7, [.ref n0, .ref s0, .ref im, .ref iz, .ref rw, .ref t0, .ref u0, .ref h0, .ref y0, .null]))]) (nA := 1) hC V hl.1 (c_putBytes l D T t0 ve k2_10 t1 g_11 (by first | assumption | omega | decide)) w_284 w_285 w_286 w_4 w_287 (by decide +kernel) rfl ⟨(Nat.le_of_ble_eq_true rfl), (Nat.le_of_ble_eq_true rfl)⟩ 1 (ci := 2) rfl rfl [1, 2] [0] rfl rfl rfl rfl (by decide) (Nat.le_of_ble_eq_true rfl) dX7_feed_58 ⟨(Nat.le_of_ble_eq_true rfl), (Nat.le_of_ble_eq_true rfl)⟩ rfl (fun r w1 H locs hQ V => ?_)
  obtain ⟨k2_13, g_14, rfl, rfl, f_15⟩ := hQ
  have V : gW D T A s [(o, .inr (7, [.ref n0, .ref s0, .ref im, .ref iz, .ref rw, .ref t0, .ref u0, .ref h0, .ref y0, .null])), (t0, .inr (2, [.int (nI k2_13), .int (nI 0), .int (-1), .ref t1, .int (nI 0), .int (nI 0), .int (nI 0), .int (nI 0)])), (t1, .inl (T 3, 900, .inl g_14))] H locs := V
  show W p l e _ s m args below meth c H locs _ _ _ (F0 m 61 ls [])
  refine lv_aload_n hx hb dX7_feed_61 rfl (lv_at hl 0 rfl) ?_
  refine g_get hC V (ci := 7) uwX7 0 rfl rfl 5 (by decide) w_254 rfl rfl dX7_feed_62 ?_
  refine g_get hC V (ci := 2) uwX2 1 rfl rfl 0 (by decide) w_128 rfl rfl dX7_feed_65 ?_
  have V := V.sub (ws' := []) [] rfl rfl
  exact g_iret (Qr := (q_X7_feed T o va vb vc vd ve n0 s0 im iz rw t0 u0 h0 y0 t1)) hC V ⟨(Nat.le_of_ble_eq_true rfl), (Nat.le_of_ble_eq_true rfl)⟩ ⟨(nI k2_13), rfl, rfl, (congrArg nI (by omega))⟩ dX7_feed_68

def q_fill10 (T : Nat → ClassId) (a : Nat) (x : Int32) (f0 : Nat → Int32) : Option Value → va_W → Prop := fun rr ww => (∃ (g : Nat → Int32), rr = none ∧ ww = [(a, .inl (T 0, 10, .inl g))])
set_option maxHeartbeats 4000000 in
set_option maxRecDepth 100000 in
theorem c_fill10 (l : Launch) (D : va_G) (T : Nat → ClassId) (a : Nat) (x : Int32) (f0 : Nat → Int32) : Ct l yJ7_fill_53178 cJ7_fill_53178 4 none 0 0 0 D T [.ref a, .int x] [(a, .inl (T 0, 10, .inl f0))] (q_fill10 T a x f0) := by
  refine Ct.of (cc := cJ7_fill_53178) (maxL := 4) (ret := none) (by decide) (Nat.le_of_ble_eq_true rfl) ?_
  intro p e s m args below meth c A ls hC hnm V hl
  obtain ⟨hx, hb, hr, hml, hown, hts, hlocks⟩ := id hC
  generalize hH : s.heap = H at V ⊢
  clear hH
  have hl : lv_has ls 4 [(0, .ref a), (1, .int x)] := hl
  generalize hlo : ([] : List Loc) = locs at V ⊢
  clear hlo
  refine lv_iconst (v := (nI 0)) hx hb dJ7_fill_53178_0 (by decide +kernel) ?_
  refine lv_istore_n (lv' := [(2, .int (nI 0)), (0, .ref a), (1, .int x)]) hx hb dJ7_fill_53178_1 rfl hl (by decide) rfl (fun ls hl => ?_)
  refine lv_aload_n hx hb dJ7_fill_53178_2 rfl (lv_at hl 1 rfl) ?_
  refine g_alen hC V 0 0 rfl rfl dJ7_fill_53178_3 ?_
  refine lv_istore_n (lv' := [(3, .int (nI 10)), (2, .int (nI 0)), (0, .ref a), (1, .int x)]) hx hb dJ7_fill_53178_4 rfl hl (by decide) rfl (fun ls hl => ?_)
  have L_1 : ∀ (fu : Nat) (k : Nat) (f : Nat → Int32), k ≤ 10 → 10 - k < fu → ∀ (H : Heap) (locs : List Loc) (ls : Array Slot), gW D T A s [(a, .inl (T 0, 10, .inl f))] H locs → lv_has ls 4 [(3, .int (nI 10)), (2, .int (nI k)), (0, .ref a), (1, .int x)] → W p l e (rmD 0 0 0) s m args below meth c H locs 0 0 (MQ below (gQ D A (q_fill10 T a x f0)) args s 0 0 A) (F0 m 5 ls []) := by
    intro fu
    induction fu with
    | zero => intro k f hk hmu; exact absurd hmu (Nat.not_lt_zero _)
    | succ fu ih =>
      intro k f hk hmu H locs ls V hl
      refine lv_iload_n hx hb dJ7_fill_53178_5 rfl (lv_at hl 1 rfl) ?_
      refine lv_iload_n hx hb dJ7_fill_53178_6 rfl (lv_at hl 0 rfl) ?_
      refine lv_icmp_ge (tgt := 20) hx hb dJ7_fill_53178_7 (by decide) (fun c_2 => ?_) (fun c_2 => ?_)
      · skip
        have c_2 := b_le (by omega) (by omega) c_2
        exact g_vret (Qr := (q_fill10 T a x f0)) hC V ⟨(Nat.le_of_ble_eq_true rfl), (Nat.le_of_ble_eq_true rfl)⟩ ⟨f, rfl, rfl⟩ dJ7_fill_53178_20
      · skip
        have c_2 := b_nle (by omega) (by omega) c_2
        refine lv_aload_n hx hb dJ7_fill_53178_10 rfl (lv_at hl 2 rfl) ?_
        refine lv_iload_n hx hb dJ7_fill_53178_11 rfl (lv_at hl 1 rfl) ?_
        refine lv_iload_n hx hb dJ7_fill_53178_12 rfl (lv_at hl 3 rfl) ?_
        refine g_iast hC V 0 rfl (vp_in_nI (by omega) (by omega)) (f' := (upd f k x)) (by rw [nI_clamp (by omega)]) (ws' := [(a, .inl (T 0, 10, .inl (upd f k x)))]) rfl dJ7_fill_53178_13 (fun H locs V => ?_)
        refine lv_iinc (v := (nI (k + 1))) (lv' := [(2, .int (nI (k + 1))), (3, .int (nI 10)), (0, .ref a), (1, .int x)]) hx hb dJ7_fill_53178_14 hl (k := 1) rfl (nI_1 _) (by decide) rfl (fun ls hl => ?_)
        refine lv_goto (tgt := 5) hx hb dJ7_fill_53178_17 (by decide) ?_
        exact ih (k + 1) (upd f k x) (by omega) (by omega) _ _ _ V (lv_sub hl [1, 0, 2, 3] rfl)
  exact L_1 _ 0 f0 (Nat.zero_le _) (Nat.lt_succ_self _) _ _ _ V (lv_sub hl [0, 1, 2, 3] rfl)

def q_fillJ (T : Nat → ClassId) (a : Nat) (x : Int64) (f0 : Nat → Int64) : Option Value → va_W → Prop := fun rr ww => (∃ (g : Nat → Int64), rr = none ∧ ww = [(a, .inl (T 1, 40, .inr (.inl g)))])
set_option maxHeartbeats 4000000 in
set_option maxRecDepth 100000 in
theorem c_fillJ (l : Launch) (D : va_G) (T : Nat → ClassId) (a : Nat) (x : Int64) (f0 : Nat → Int64) : Ct l yJ7_fill_d0a16 cJ7_fill_d0a16 5 none 0 0 0 D T [.ref a, .long x] [(a, .inl (T 1, 40, .inr (.inl f0)))] (q_fillJ T a x f0) := by
  refine Ct.of (cc := cJ7_fill_d0a16) (maxL := 5) (ret := none) (by decide) (Nat.le_of_ble_eq_true rfl) ?_
  intro p e s m args below meth c A ls hC hnm V hl
  obtain ⟨hx, hb, hr, hml, hown, hts, hlocks⟩ := id hC
  generalize hH : s.heap = H at V ⊢
  clear hH
  have hl : lv_has ls 5 [(0, .ref a), (1, .long x)] := hl
  generalize hlo : ([] : List Loc) = locs at V ⊢
  clear hlo
  refine lv_iconst (v := (nI 0)) hx hb dJ7_fill_d0a16_0 (by decide +kernel) ?_
  refine lv_istore_n (lv' := [(3, .int (nI 0)), (0, .ref a), (1, .long x)]) hx hb dJ7_fill_d0a16_1 rfl hl (by decide) rfl (fun ls hl => ?_)
  refine lv_aload_n hx hb dJ7_fill_d0a16_2 rfl (lv_at hl 1 rfl) ?_
  refine g_alen hC V 0 1 rfl rfl dJ7_fill_d0a16_3 ?_
  refine lv_istore (lv' := [(4, .int (nI 40)), (3, .int (nI 0)), (0, .ref a), (1, .long x)]) hx hb dJ7_fill_d0a16_4 hl (by decide) rfl (fun ls hl => ?_)
  have L_1 : ∀ (fu : Nat) (k : Nat) (f : Nat → Int64), k ≤ 40 → 40 - k < fu → ∀ (H : Heap) (locs : List Loc) (ls : Array Slot), gW D T A s [(a, .inl (T 1, 40, .inr (.inl f)))] H locs → lv_has ls 5 [(4, .int (nI 40)), (3, .int (nI k)), (0, .ref a), (1, .long x)] → W p l e (rmD 0 0 0) s m args below meth c H locs 0 0 (MQ below (gQ D A (q_fillJ T a x f0)) args s 0 0 A) (F0 m 6 ls []) := by
    intro fu
    induction fu with
    | zero => intro k f hk hmu; exact absurd hmu (Nat.not_lt_zero _)
    | succ fu ih =>
      intro k f hk hmu H locs ls V hl
      refine lv_iload_n hx hb dJ7_fill_d0a16_6 rfl (lv_at hl 1 rfl) ?_
      refine lv_iload hx hb dJ7_fill_d0a16_7 (lv_at hl 0 rfl) ?_
      refine lv_icmp_ge (tgt := 22) hx hb dJ7_fill_d0a16_9 (by decide) (fun c_2 => ?_) (fun c_2 => ?_)
      · skip
        have c_2 := b_le (by omega) (by omega) c_2
        exact g_vret (Qr := (q_fillJ T a x f0)) hC V ⟨(Nat.le_of_ble_eq_true rfl), (Nat.le_of_ble_eq_true rfl)⟩ ⟨f, rfl, rfl⟩ dJ7_fill_d0a16_22
      · skip
        have c_2 := b_nle (by omega) (by omega) c_2
        refine lv_aload_n hx hb dJ7_fill_d0a16_12 rfl (lv_at hl 2 rfl) ?_
        refine lv_iload_n hx hb dJ7_fill_d0a16_13 rfl (lv_at hl 1 rfl) ?_
        refine lv_lload_n hx hb dJ7_fill_d0a16_14 rfl (lv_at hl 3 rfl) ?_
        refine g_last hC V 0 rfl (vp_in_nI (by omega) (by omega)) (f' := (vp_updL f k x)) (by rw [nI_clamp (by omega)]) (ws' := [(a, .inl (T 1, 40, .inr (.inl (vp_updL f k x))))]) rfl dJ7_fill_d0a16_15 (fun H locs V => ?_)
        refine lv_iinc (v := (nI (k + 1))) (lv' := [(3, .int (nI (k + 1))), (4, .int (nI 40)), (0, .ref a), (1, .long x)]) hx hb dJ7_fill_d0a16_16 hl (k := 1) rfl (nI_1 _) (by decide) rfl (fun ls hl => ?_)
        refine lv_goto (tgt := 6) hx hb dJ7_fill_d0a16_19 (by decide) ?_
        exact ih (k + 1) (vp_updL f k x) (by omega) (by omega) _ _ _ V (lv_sub hl [1, 0, 2, 3] rfl)
  exact L_1 _ 0 f0 (Nat.zero_le _) (Nat.lt_succ_self _) _ _ _ V (lv_sub hl [0, 1, 2, 3] rfl)

def q_kindAt (T : Nat → ClassId) (t0 : Nat) (t1 : Nat) (kd : Int32) (fr : Int32) : Option Value → va_W → Prop := fun rr ww => (rr = some (.int (nI 5)) ∧ ww = [(t0, .inr (2, [.int (nI 0), .int (nI 0), .int (-1), .ref t1, .int (nI 0), .int kd, .int fr, .int (nI 0)]))])
set_option maxHeartbeats 4000000 in
set_option maxRecDepth 100000 in
theorem c_kindAt (l : Launch) (D : va_G) (T : Nat → ClassId) (t0 : Nat) (t1 : Nat) (kd : Int32) (fr : Int32) : Ct l yX2_kindAt cX2_kindAt 3 (some .int) 0 0 0 D T [.ref t0, .int (nI 0)] [(t0, .inr (2, [.int (nI 0), .int (nI 0), .int (-1), .ref t1, .int (nI 0), .int kd, .int fr, .int (nI 0)]))] (q_kindAt T t0 t1 kd fr) := by
  refine Ct.of (cc := cX2_kindAt) (maxL := 3) (ret := (some .int)) (by decide) (Nat.le_of_ble_eq_true rfl) ?_
  intro p e s m args below meth c A ls hC hnm V hl
  obtain ⟨hx, hb, hr, hml, hown, hts, hlocks⟩ := id hC
  generalize hH : s.heap = H at V ⊢
  clear hH
  have hl : lv_has ls 3 [(0, .ref t0), (1, .int (nI 0))] := hl
  generalize hlo : ([] : List Loc) = locs at V ⊢
  clear hlo
  refine lv_iload_n hx hb dX2_kindAt_0 rfl (lv_at hl 1 rfl) ?_
  refine lv_aload_n hx hb dX2_kindAt_1 rfl (lv_at hl 0 rfl) ?_
  refine g_get hC V (ci := 2) uwX2 0 rfl rfl 4 (by decide) w_135 rfl rfl dX2_kindAt_2 ?_
  refine lv_icmp_lt (tgt := 10) hx hb dX2_kindAt_5 (by decide) (fun c => absurd (show (nI 0) < (nI 0) from c) (by decide +kernel)) (fun _ => ?_)
  refine lv_iconst (v := (nI 5)) hx hb dX2_kindAt_8 (by decide +kernel) ?_
  exact g_iret (Qr := (q_kindAt T t0 t1 kd fr)) hC V ⟨(Nat.le_of_ble_eq_true rfl), (Nat.le_of_ble_eq_true rfl)⟩ ⟨rfl, rfl⟩ dX2_kindAt_9

def q_nextToken (T : Nat → ClassId) (t0 : Nat) (t1 : Nat) (kd : Int32) (fr : Int32) : Option Value → va_W → Prop := fun rr ww => (rr = none ∧ ww = [(t0, .inr (2, [.int (nI 0), .int (nI 0), .int (-1), .ref t1, .int (nI 0), .int (nI 5), .int (nI 0), .int (nI 0)]))])
set_option maxHeartbeats 4000000 in
set_option maxRecDepth 100000 in
theorem c_nextToken (l : Launch) (D : va_G) (T : Nat → ClassId) (t0 : Nat) (t1 : Nat) (kd : Int32) (fr : Int32) : Ct l yX2_nextToken cX2_nextToken 1 none 1 0 0 D T [.ref t0] [(t0, .inr (2, [.int (nI 0), .int (nI 0), .int (-1), .ref t1, .int (nI 0), .int kd, .int fr, .int (nI 0)]))] (q_nextToken T t0 t1 kd fr) := by
  refine Ct.of (cc := cX2_nextToken) (maxL := 1) (ret := none) (by decide) (Nat.le_of_ble_eq_true rfl) ?_
  intro p e s m args below meth c A ls hC hnm V hl
  obtain ⟨hx, hb, hr, hml, hown, hts, hlocks⟩ := id hC
  generalize hH : s.heap = H at V ⊢
  clear hH
  have hl : lv_has ls 1 [(0, .ref t0)] := hl
  generalize hlo : ([] : List Loc) = locs at V ⊢
  clear hlo
  refine lv_aload_n hx hb dX2_nextToken_0 rfl (lv_at hl 0 rfl) ?_
  refine lv_aload_n hx hb dX2_nextToken_1 rfl (lv_at hl 0 rfl) ?_
  refine g_get hC V (ci := 2) uwX2 0 rfl rfl 7 (by decide) w_138 rfl rfl dX2_nextToken_2 ?_
  refine g_put hC V (ci := 2) uwX2 tyX2 tyX2_ok nmX2 0 rfl rfl 6 (by decide) w_137 rfl rfl rfl rfl (Nat.le_of_ble_eq_true rfl) (ws' := [(t0, .inr (2, [.int (nI 0), .int (nI 0), .int (-1), .ref t1, .int (nI 0), .int kd, .int (nI 0), .int (nI 0)]))]) rfl dX2_nextToken_5 (fun H locs V => ?_)
  refine lv_aload_n hx hb dX2_nextToken_8 rfl (lv_at hl 0 rfl) ?_
  refine g_get hC V (ci := 2) uwX2 0 rfl rfl 6 (by decide) w_137 rfl rfl dX2_nextToken_9 ?_
  refine lv_aload_n hx hb dX2_nextToken_12 rfl (lv_at hl 0 rfl) ?_
  refine g_get hC V (ci := 2) uwX2 0 rfl rfl 4 (by decide) w_135 rfl rfl dX2_nextToken_13 ?_
  refine lv_icmp_ge (tgt := 44) hx hb dX2_nextToken_16 (by decide) (fun _ => ?_) (fun c => absurd (show (nI 0) ≤ (nI 0) by first | rfl | decide +kernel) c)
  refine lv_aload_n hx hb dX2_nextToken_44 rfl (lv_at hl 0 rfl) ?_
  refine lv_aload_n hx hb dX2_nextToken_45 rfl (lv_at hl 0 rfl) ?_
  refine lv_aload_n hx hb dX2_nextToken_46 rfl (lv_at hl 0 rfl) ?_
  refine g_get hC V (ci := 2) uwX2 0 rfl rfl 6 (by decide) w_137 rfl rfl dX2_nextToken_47 ?_
  refine g_callV (wr := []) (nA := 1) hC V hl.1 (c_kindAt l D T t0 t1 kd (nI 0)) w_313 w_315 w_s1 w_4 w_316 (by decide +kernel) rfl ⟨(Nat.le_of_ble_eq_true rfl), (Nat.le_of_ble_eq_true rfl)⟩ 0 (ci := 2) rfl rfl [0] [] rfl rfl rfl rfl (by decide) (Nat.le_of_ble_eq_true rfl) dX2_nextToken_50 ⟨(Nat.le_of_ble_eq_true rfl), (Nat.le_of_ble_eq_true rfl)⟩ rfl (fun r w1 H locs hQ V => ?_)
  obtain ⟨rfl, rfl⟩ := hQ
  have V : gW D T A s [(t0, .inr (2, [.int (nI 0), .int (nI 0), .int (-1), .ref t1, .int (nI 0), .int kd, .int (nI 0), .int (nI 0)]))] H locs := V
  show W p l e _ s m args below meth c H locs _ _ _ (F0 m 53 ls [.int (nI 5), .ref t0])
  refine g_put hC V (ci := 2) uwX2 tyX2 tyX2_ok nmX2 0 rfl rfl 5 (by decide) w_136 rfl rfl rfl rfl (Nat.le_of_ble_eq_true rfl) (ws' := [(t0, .inr (2, [.int (nI 0), .int (nI 0), .int (-1), .ref t1, .int (nI 0), .int (nI 5), .int (nI 0), .int (nI 0)]))]) rfl dX2_nextToken_53 (fun H locs V => ?_)
  refine lv_aload_n hx hb dX2_nextToken_56 rfl (lv_at hl 0 rfl) ?_
  refine lv_aload_n hx hb dX2_nextToken_57 rfl (lv_at hl 0 rfl) ?_
  refine g_get hC V (ci := 2) uwX2 0 rfl rfl 6 (by decide) w_137 rfl rfl dX2_nextToken_58 ?_
  refine lv_iconst (v := (nI 1)) hx hb dX2_nextToken_61 (by decide +kernel) ?_
  refine lv_iadd hx hb dX2_nextToken_62 ?_
  refine g_vi (y := (nI 1)) (by decide +kernel) ?_
  refine lv_aload_n hx hb dX2_nextToken_63 rfl (lv_at hl 0 rfl) ?_
  refine g_get hC V (ci := 2) uwX2 0 rfl rfl 4 (by decide) w_135 rfl rfl dX2_nextToken_64 ?_
  refine va_mmin hx hb (hml.trans hl.1.symm) hown (hts _ w_299) (hts _ w_300) (hts _ w_10) (hts _ w_301) (Nat.le_of_ble_eq_true rfl) (Nat.le_of_ble_eq_true rfl) (Nat.le_of_ble_eq_true rfl) (Nat.le_of_ble_eq_true rfl) dX2_nextToken_67 ?_
  refine g_vi (y := (nI 0)) (by decide +kernel) ?_
  refine g_put hC V (ci := 2) uwX2 tyX2 tyX2_ok nmX2 0 rfl rfl 7 (by decide) w_138 rfl rfl rfl rfl (Nat.le_of_ble_eq_true rfl) (ws' := [(t0, .inr (2, [.int (nI 0), .int (nI 0), .int (-1), .ref t1, .int (nI 0), .int (nI 5), .int (nI 0), .int (nI 0)]))]) rfl dX2_nextToken_70 (fun H locs V => ?_)
  refine lv_aload_n hx hb dX2_nextToken_73 rfl (lv_at hl 0 rfl) ?_
  refine g_get hC V (ci := 2) uwX2 0 rfl rfl 7 (by decide) w_138 rfl rfl dX2_nextToken_74 ?_
  refine lv_aload_n hx hb dX2_nextToken_77 rfl (lv_at hl 0 rfl) ?_
  refine g_get hC V (ci := 2) uwX2 0 rfl rfl 4 (by decide) w_135 rfl rfl dX2_nextToken_78 ?_
  refine lv_icmp_ge (tgt := 128) hx hb dX2_nextToken_81 (by decide) (fun _ => ?_) (fun c => absurd (show (nI 0) ≤ (nI 0) by first | rfl | decide +kernel) c)
  refine lv_aload_n hx hb dX2_nextToken_128 rfl (lv_at hl 0 rfl) ?_
  refine g_get hC V (ci := 2) uwX2 0 rfl rfl 5 (by decide) w_136 rfl rfl dX2_nextToken_129 ?_
  refine lv_bipush (v := (nI 6)) hx hb dX2_nextToken_132 (by decide +kernel) ?_
  refine lv_icmp_eq (tgt := 158) hx hb dX2_nextToken_134 (by decide) (fun c => absurd (show (nI 5) = (nI 6) from c) (by decide +kernel)) (fun _ => ?_)
  refine lv_aload_n hx hb dX2_nextToken_137 rfl (lv_at hl 0 rfl) ?_
  refine g_get hC V (ci := 2) uwX2 0 rfl rfl 5 (by decide) w_136 rfl rfl dX2_nextToken_138 ?_
  refine lv_iconst (v := (nI 2)) hx hb dX2_nextToken_141 (by decide +kernel) ?_
  refine lv_icmp_ne (tgt := 169) hx hb dX2_nextToken_142 (by decide) (fun _ => ?_) (fun c => absurd (show (nI 5) = (nI 2) from c) (by decide +kernel))
  exact g_vret (Qr := (q_nextToken T t0 t1 kd fr)) hC V ⟨(Nat.le_of_ble_eq_true rfl), (Nat.le_of_ble_eq_true rfl)⟩ ⟨rfl, rfl⟩ dX2_nextToken_169

def q_readStreet (T : Nat → ClassId) (t0 : Nat) (s0 : Nat) (t1 : Nat) (s1 : Nat) (s2 : Nat) (s3 : Nat) (s4 : Nat) (s5 : Nat) (s6 : Nat) (s7 : Nat) (s8 : Nat) (s9 : Nat) (s10 : Nat) : Option Value → va_W → Prop := fun rr ww => (∃ (g : Nat → Int32), rr = none ∧ ww = [(t0, .inr (2, [.int (nI 0), .int (nI 0), .int (-1), .ref t1, .int (nI 0), .int (nI 5), .int (nI 0), .int (nI 0)])), (s0, .inr (5, [.int (nI 0), .int (nI 0), .int (nI 0), .int (nI 20), .int (nI 0), .ref s1, .ref s2, .ref s3, .ref s4, .ref s5, .ref s6, .ref s7, .ref s8, .ref s9, .ref s10])), (s9, .inl (T 0, 10, .inl g))])
set_option maxHeartbeats 4000000 in
set_option maxRecDepth 100000 in
theorem c_readStreet (l : Launch) (D : va_G) (T : Nat → ClassId) (t0 : Nat) (s0 : Nat) (t1 : Nat) (s1 : Nat) (s2 : Nat) (s3 : Nat) (s4 : Nat) (s5 : Nat) (s6 : Nat) (s7 : Nat) (s8 : Nat) (s9 : Nat) (s10 : Nat) : Ct l yX2_readStreet cX2_readStreet 4 none 2 0 0 D T [.ref t0, .int (nI 0), .ref s0] [(t0, .inr (2, [.int (nI 0), .int (nI 0), .int (-1), .ref t1, .int (nI 0), .int (nI 0), .int (nI 0), .int (nI 0)])), (s0, .inr (5, [.int (nI 0), .int (nI 0), .int (nI 0), .int (nI 20), .int (nI 0), .ref s1, .ref s2, .ref s3, .ref s4, .ref s5, .ref s6, .ref s7, .ref s8, .ref s9, .ref s10])), (s9, .inl (T 0, 10, .inl (fun _ => nI 0)))] (q_readStreet T t0 s0 t1 s1 s2 s3 s4 s5 s6 s7 s8 s9 s10) := by
  refine Ct.of (cc := cX2_readStreet) (maxL := 4) (ret := none) (by decide) (Nat.le_of_ble_eq_true rfl) ?_
  intro p e s m args below meth c A ls hC hnm V hl
  obtain ⟨hx, hb, hr, hml, hown, hts, hlocks⟩ := id hC
  generalize hH : s.heap = H at V ⊢
  clear hH
  have hl : lv_has ls 4 [(0, .ref t0), (1, .int (nI 0)), (2, .ref s0)] := hl
  generalize hlo : ([] : List Loc) = locs at V ⊢
  clear hlo
  refine lv_aload_n hx hb dX2_readStreet_0 rfl (lv_at hl 0 rfl) ?_
  refine lv_iload_n hx hb dX2_readStreet_1 rfl (lv_at hl 1 rfl) ?_
  refine lv_aload_n hx hb dX2_readStreet_2 rfl (lv_at hl 0 rfl) ?_
  refine g_get hC V (ci := 2) uwX2 0 rfl rfl 0 (by decide) w_129 rfl rfl dX2_readStreet_3 ?_
  refine va_mmin hx hb (hml.trans hl.1.symm) hown (hts _ w_299) (hts _ w_300) (hts _ w_10) (hts _ w_301) (Nat.le_of_ble_eq_true rfl) (Nat.le_of_ble_eq_true rfl) (Nat.le_of_ble_eq_true rfl) (Nat.le_of_ble_eq_true rfl) dX2_readStreet_6 ?_
  refine g_vi (y := (nI 0)) (by decide +kernel) ?_
  refine g_put hC V (ci := 2) uwX2 tyX2 tyX2_ok nmX2 0 rfl rfl 4 (by decide) w_135 rfl rfl rfl rfl (Nat.le_of_ble_eq_true rfl) (ws' := [(t0, .inr (2, [.int (nI 0), .int (nI 0), .int (-1), .ref t1, .int (nI 0), .int (nI 0), .int (nI 0), .int (nI 0)])), (s0, .inr (5, [.int (nI 0), .int (nI 0), .int (nI 0), .int (nI 20), .int (nI 0), .ref s1, .ref s2, .ref s3, .ref s4, .ref s5, .ref s6, .ref s7, .ref s8, .ref s9, .ref s10])), (s9, .inl (T 0, 10, .inl (fun _ => nI 0)))]) rfl dX2_readStreet_9 (fun H locs V => ?_)
  refine lv_aload_n hx hb dX2_readStreet_12 rfl (lv_at hl 0 rfl) ?_
  refine lv_iconst (v := (nI 0)) hx hb dX2_readStreet_13 (by decide +kernel) ?_
  refine g_put hC V (ci := 2) uwX2 tyX2 tyX2_ok nmX2 0 rfl rfl 0 (by decide) w_129 rfl rfl rfl rfl (Nat.le_of_ble_eq_true rfl) (ws' := [(t0, .inr (2, [.int (nI 0), .int (nI 0), .int (-1), .ref t1, .int (nI 0), .int (nI 0), .int (nI 0), .int (nI 0)])), (s0, .inr (5, [.int (nI 0), .int (nI 0), .int (nI 0), .int (nI 20), .int (nI 0), .ref s1, .ref s2, .ref s3, .ref s4, .ref s5, .ref s6, .ref s7, .ref s8, .ref s9, .ref s10])), (s9, .inl (T 0, 10, .inl (fun _ => nI 0)))]) rfl dX2_readStreet_14 (fun H locs V => ?_)
  refine lv_aload_n hx hb dX2_readStreet_17 rfl (lv_at hl 0 rfl) ?_
  refine lv_iconst (v := (nI 0)) hx hb dX2_readStreet_18 (by decide +kernel) ?_
  refine g_put hC V (ci := 2) uwX2 tyX2 tyX2_ok nmX2 0 rfl rfl 7 (by decide) w_138 rfl rfl rfl rfl (Nat.le_of_ble_eq_true rfl) (ws' := [(t0, .inr (2, [.int (nI 0), .int (nI 0), .int (-1), .ref t1, .int (nI 0), .int (nI 0), .int (nI 0), .int (nI 0)])), (s0, .inr (5, [.int (nI 0), .int (nI 0), .int (nI 0), .int (nI 20), .int (nI 0), .ref s1, .ref s2, .ref s3, .ref s4, .ref s5, .ref s6, .ref s7, .ref s8, .ref s9, .ref s10])), (s9, .inl (T 0, 10, .inl (fun _ => nI 0)))]) rfl dX2_readStreet_19 (fun H locs V => ?_)
  refine lv_aload_n hx hb dX2_readStreet_22 rfl (lv_at hl 0 rfl) ?_
  refine lv_iconst (v := (nI 0)) hx hb dX2_readStreet_23 (by decide +kernel) ?_
  refine g_put hC V (ci := 2) uwX2 tyX2 tyX2_ok nmX2 0 rfl rfl 1 (by decide) w_130 rfl rfl rfl rfl (Nat.le_of_ble_eq_true rfl) (ws' := [(t0, .inr (2, [.int (nI 0), .int (nI 0), .int (-1), .ref t1, .int (nI 0), .int (nI 0), .int (nI 0), .int (nI 0)])), (s0, .inr (5, [.int (nI 0), .int (nI 0), .int (nI 0), .int (nI 20), .int (nI 0), .ref s1, .ref s2, .ref s3, .ref s4, .ref s5, .ref s6, .ref s7, .ref s8, .ref s9, .ref s10])), (s9, .inl (T 0, 10, .inl (fun _ => nI 0)))]) rfl dX2_readStreet_24 (fun H locs V => ?_)
  refine lv_aload_n hx hb dX2_readStreet_27 rfl (lv_at hl 0 rfl) ?_
  refine lv_iconst (v := (-1)) hx hb dX2_readStreet_28 (by decide +kernel) ?_
  refine g_put hC V (ci := 2) uwX2 tyX2 tyX2_ok nmX2 0 rfl rfl 2 (by decide) w_132 rfl rfl rfl rfl (Nat.le_of_ble_eq_true rfl) (ws' := [(t0, .inr (2, [.int (nI 0), .int (nI 0), .int (-1), .ref t1, .int (nI 0), .int (nI 0), .int (nI 0), .int (nI 0)])), (s0, .inr (5, [.int (nI 0), .int (nI 0), .int (nI 0), .int (nI 20), .int (nI 0), .ref s1, .ref s2, .ref s3, .ref s4, .ref s5, .ref s6, .ref s7, .ref s8, .ref s9, .ref s10])), (s9, .inl (T 0, 10, .inl (fun _ => nI 0)))]) rfl dX2_readStreet_29 (fun H locs V => ?_)
  refine lv_aload_n hx hb dX2_readStreet_32 rfl (lv_at hl 2 rfl) ?_
  refine g_callV (wr := [(t0, .inr (2, [.int (nI 0), .int (nI 0), .int (-1), .ref t1, .int (nI 0), .int (nI 0), .int (nI 0), .int (nI 0)])), (s9, .inl (T 0, 10, .inl (fun _ => nI 0)))]) (nA := 0) hC V hl.1 (c_clear l D T s0 0 s1 s2 s3 s4 s5 s6 s7 s8 s9 s10) w_302 w_303 w_304 w_3 w_305 (by decide +kernel) rfl ⟨(Nat.le_of_ble_eq_true rfl), (Nat.le_of_ble_eq_true rfl)⟩ 1 (ci := 5) rfl rfl [1] [0, 2] rfl rfl rfl rfl (by decide) (Nat.le_of_ble_eq_true rfl) dX2_readStreet_33 ⟨(Nat.le_of_ble_eq_true rfl), (Nat.le_of_ble_eq_true rfl)⟩ rfl (fun r w1 H locs hQ V => ?_)
  obtain ⟨rfl, rfl⟩ := hQ
  have V : gW D T A s [(t0, .inr (2, [.int (nI 0), .int (nI 0), .int (-1), .ref t1, .int (nI 0), .int (nI 0), .int (nI 0), .int (nI 0)])), (s9, .inl (T 0, 10, .inl (fun _ => nI 0))), (s0, .inr (5, [.int (nI 0), .int (nI 0), .int (nI 0), .int (nI 20), .int (nI 0), .ref s1, .ref s2, .ref s3, .ref s4, .ref s5, .ref s6, .ref s7, .ref s8, .ref s9, .ref s10]))] H locs := V
  show W p l e _ s m args below meth c H locs _ _ _ (F0 m 36 ls [])
  refine lv_aload_n hx hb dX2_readStreet_36 rfl (lv_at hl 2 rfl) ?_
  refine g_get hC V (ci := 5) uwX5 2 rfl rfl 13 (by decide) w_83 rfl rfl dX2_readStreet_37 ?_
  refine lv_iconst (v := (-1)) hx hb dX2_readStreet_40 (by decide +kernel) ?_
  refine g_callS (wr := [(t0, .inr (2, [.int (nI 0), .int (nI 0), .int (-1), .ref t1, .int (nI 0), .int (nI 0), .int (nI 0), .int (nI 0)])), (s0, .inr (5, [.int (nI 0), .int (nI 0), .int (nI 0), .int (nI 20), .int (nI 0), .ref s1, .ref s2, .ref s3, .ref s4, .ref s5, .ref s6, .ref s7, .ref s8, .ref s9, .ref s10]))]) (nA := 2) hC V hl.1 (c_fill10 l D T s9 (-1) (fun _ => nI 0)) w_306 w_307 w_11 w_308 (by decide +kernel) rfl ⟨(Nat.le_of_ble_eq_true rfl), (Nat.le_of_ble_eq_true rfl)⟩ [1] [0, 2] rfl rfl rfl rfl (by decide) (Nat.le_of_ble_eq_true rfl) dX2_readStreet_41 ⟨(Nat.le_of_ble_eq_true rfl), (Nat.le_of_ble_eq_true rfl)⟩ rfl (fun r w1 H locs hQ V => ?_)
  obtain ⟨g_1, rfl, rfl⟩ := hQ
  have V : gW D T A s [(t0, .inr (2, [.int (nI 0), .int (nI 0), .int (-1), .ref t1, .int (nI 0), .int (nI 0), .int (nI 0), .int (nI 0)])), (s0, .inr (5, [.int (nI 0), .int (nI 0), .int (nI 0), .int (nI 20), .int (nI 0), .ref s1, .ref s2, .ref s3, .ref s4, .ref s5, .ref s6, .ref s7, .ref s8, .ref s9, .ref s10])), (s9, .inl (T 0, 10, .inl g_1))] H locs := V
  show W p l e _ s m args below meth c H locs _ _ _ (F0 m 44 ls [])
  refine lv_aload_n hx hb dX2_readStreet_44 rfl (lv_at hl 0 rfl) ?_
  refine g_callV (wr := [(s0, .inr (5, [.int (nI 0), .int (nI 0), .int (nI 0), .int (nI 20), .int (nI 0), .ref s1, .ref s2, .ref s3, .ref s4, .ref s5, .ref s6, .ref s7, .ref s8, .ref s9, .ref s10])), (s9, .inl (T 0, 10, .inl g_1))]) (nA := 0) hC V hl.1 (c_nextToken l D T t0 t1 (nI 0) (nI 0)) w_309 w_311 w_s0 w_4 w_312 (by decide +kernel) rfl ⟨(Nat.le_of_ble_eq_true rfl), (Nat.le_of_ble_eq_true rfl)⟩ 0 (ci := 2) rfl rfl [0] [1, 2] rfl rfl rfl rfl (by decide) (Nat.le_of_ble_eq_true rfl) dX2_readStreet_45 ⟨(Nat.le_of_ble_eq_true rfl), (Nat.le_of_ble_eq_true rfl)⟩ rfl (fun r w1 H locs hQ V => ?_)
  obtain ⟨rfl, rfl⟩ := hQ
  have V : gW D T A s [(s0, .inr (5, [.int (nI 0), .int (nI 0), .int (nI 0), .int (nI 20), .int (nI 0), .ref s1, .ref s2, .ref s3, .ref s4, .ref s5, .ref s6, .ref s7, .ref s8, .ref s9, .ref s10])), (s9, .inl (T 0, 10, .inl g_1)), (t0, .inr (2, [.int (nI 0), .int (nI 0), .int (-1), .ref t1, .int (nI 0), .int (nI 5), .int (nI 0), .int (nI 0)]))] H locs := V
  show W p l e _ s m args below meth c H locs _ _ _ (F0 m 48 ls [])
  refine lv_iconst (v := (nI 0)) hx hb dX2_readStreet_48 (by decide +kernel) ?_
  refine lv_istore_n (lv' := [(3, .int (nI 0)), (0, .ref t0), (1, .int (nI 0)), (2, .ref s0)]) hx hb dX2_readStreet_49 rfl hl (by decide) rfl (fun ls hl => ?_)
  refine lv_iload_n hx hb dX2_readStreet_50 rfl (lv_at hl 0 rfl) ?_
  refine lv_aload_n hx hb dX2_readStreet_51 rfl (lv_at hl 1 rfl) ?_
  refine g_get hC V (ci := 2) uwX2 2 rfl rfl 4 (by decide) w_135 rfl rfl dX2_readStreet_52 ?_
  refine lv_icmp_gt (tgt := 150) hx hb dX2_readStreet_55 (by decide) (fun c => absurd (show (nI 0) < (nI 0) from c) (by decide +kernel)) (fun _ => ?_)
  refine lv_aload_n hx hb dX2_readStreet_58 rfl (lv_at hl 1 rfl) ?_
  refine g_get hC V (ci := 2) uwX2 2 rfl rfl 1 (by decide) w_130 rfl rfl dX2_readStreet_59 ?_
  refine lv_if_ne (tgt := 150) hx hb dX2_readStreet_62 (by decide) (fun c => absurd (show (nI 0) = 0 by decide +kernel) c) (fun _ => ?_)
  refine lv_aload_n hx hb dX2_readStreet_65 rfl (lv_at hl 1 rfl) ?_
  refine g_get hC V (ci := 2) uwX2 2 rfl rfl 5 (by decide) w_136 rfl rfl dX2_readStreet_66 ?_
  refine lv_iconst (v := (nI 5)) hx hb dX2_readStreet_69 (by decide +kernel) ?_
  refine lv_icmp_eq (tgt := 150) hx hb dX2_readStreet_70 (by decide) (fun _ => ?_) (fun c => absurd (show (nI 5) = (nI 5) by first | rfl | decide +kernel) c)
  refine lv_aload_n hx hb dX2_readStreet_150 rfl (lv_at hl 3 rfl) ?_
  refine g_callV (wr := [(s9, .inl (T 0, 10, .inl g_1)), (t0, .inr (2, [.int (nI 0), .int (nI 0), .int (-1), .ref t1, .int (nI 0), .int (nI 5), .int (nI 0), .int (nI 0)]))]) (nA := 0) hC V hl.1 (c_lay l D T s0 0 s1 s2 s3 s4 s5 s6 s7 s8 s9 s10) w_409 w_410 w_411 w_3 w_412 (by decide +kernel) rfl ⟨(Nat.le_of_ble_eq_true rfl), (Nat.le_of_ble_eq_true rfl)⟩ 0 (ci := 5) rfl rfl [0] [1, 2] rfl rfl rfl rfl (by decide) (Nat.le_of_ble_eq_true rfl) dX2_readStreet_151 ⟨(Nat.le_of_ble_eq_true rfl), (Nat.le_of_ble_eq_true rfl)⟩ rfl (fun r w1 H locs hQ V => ?_)
  obtain ⟨rfl, rfl⟩ := hQ
  have V : gW D T A s [(s9, .inl (T 0, 10, .inl g_1)), (t0, .inr (2, [.int (nI 0), .int (nI 0), .int (-1), .ref t1, .int (nI 0), .int (nI 5), .int (nI 0), .int (nI 0)])), (s0, .inr (5, [.int (nI 0), .int (nI 0), .int (nI 0), .int (nI 20), .int (nI 0), .ref s1, .ref s2, .ref s3, .ref s4, .ref s5, .ref s6, .ref s7, .ref s8, .ref s9, .ref s10]))] H locs := V
  show W p l e _ s m args below meth c H locs _ _ _ (F0 m 154 ls [])
  have V := V.sub (ws' := [(t0, .inr (2, [.int (nI 0), .int (nI 0), .int (-1), .ref t1, .int (nI 0), .int (nI 5), .int (nI 0), .int (nI 0)])), (s0, .inr (5, [.int (nI 0), .int (nI 0), .int (nI 0), .int (nI 20), .int (nI 0), .ref s1, .ref s2, .ref s3, .ref s4, .ref s5, .ref s6, .ref s7, .ref s8, .ref s9, .ref s10])), (s9, .inl (T 0, 10, .inl g_1))]) [1, 2, 0] rfl rfl
  exact g_vret (Qr := (q_readStreet T t0 s0 t1 s1 s2 s3 s4 s5 s6 s7 s8 s9 s10)) hC V ⟨(Nat.le_of_ble_eq_true rfl), (Nat.le_of_ble_eq_true rfl)⟩ ⟨g_1, rfl, rfl⟩ dX2_readStreet_154

def q_X7_street (T : Nat → ClassId) (o : Nat) (n : Int32) (n0 : Nat) (s0 : Nat) (im : Nat) (iz : Nat) (rw : Nat) (t0 : Nat) (u0 : Nat) (h0 : Nat) (y0 : Nat) (t1 : Nat) (n1 : Nat) (n2 : Nat) (n3 : Nat) (n4 : Nat) (n5 : Nat) (n6 : Nat) (n7 : Nat) (n8 : Nat) (n9 : Nat) (n10 : Nat) (s1 : Nat) (s2 : Nat) (s3 : Nat) (s4 : Nat) (s5 : Nat) (s6 : Nat) (s7 : Nat) (s8 : Nat) (s9 : Nat) (s10 : Nat) : Option Value → va_W → Prop := fun rr ww => (∃ (z : Int32), rr = some (.int z) ∧ ww = [] ∧ z = pf_street n)
set_option maxHeartbeats 4000000 in
set_option maxRecDepth 100000 in
theorem p_X7_street (l : Launch) (D : va_G) (T : Nat → ClassId) (o : Nat) (n : Int32) (n0 : Nat) (s0 : Nat) (im : Nat) (iz : Nat) (rw : Nat) (t0 : Nat) (u0 : Nat) (h0 : Nat) (y0 : Nat) (t1 : Nat) (n1 : Nat) (n2 : Nat) (n3 : Nat) (n4 : Nat) (n5 : Nat) (n6 : Nat) (n7 : Nat) (n8 : Nat) (n9 : Nat) (n10 : Nat) (s1 : Nat) (s2 : Nat) (s3 : Nat) (s4 : Nat) (s5 : Nat) (s6 : Nat) (s7 : Nat) (s8 : Nat) (s9 : Nat) (s10 : Nat) : Ct l yX7_street cX7_street 2 (some .int) 3 0 0 D T [.ref o, .int n] [(o, .inr (7, [.ref n0, .ref s0, .ref im, .ref iz, .ref rw, .ref t0, .ref u0, .ref h0, .ref y0, .null])), (t0, .inr (2, [.int (nI 0), .int (nI 0), .int (-1), .ref t1, .int (nI 0), .int (nI 0), .int (nI 0), .int (nI 0)])), (n0, .inr (5, [.int (nI 0), .int (nI 0), .int (nI 0), .int (nI 20), .int (nI 0), .ref n1, .ref n2, .ref n3, .ref n4, .ref n5, .ref n6, .ref n7, .ref n8, .ref n9, .ref n10])), (s0, .inr (5, [.int (nI 0), .int (nI 0), .int (nI 0), .int (nI 20), .int (nI 0), .ref s1, .ref s2, .ref s3, .ref s4, .ref s5, .ref s6, .ref s7, .ref s8, .ref s9, .ref s10])), (s9, .inl (T 0, 10, .inl (fun _ => nI 0)))] (q_X7_street T o n n0 s0 im iz rw t0 u0 h0 y0 t1 n1 n2 n3 n4 n5 n6 n7 n8 n9 n10 s1 s2 s3 s4 s5 s6 s7 s8 s9 s10) := by
  refine Ct.of (cc := cX7_street) (maxL := 2) (ret := (some .int)) (by decide) (Nat.le_of_ble_eq_true rfl) ?_
  intro p e s m args below meth c A ls hC hnm V hl
  obtain ⟨hx, hb, hr, hml, hown, hts, hlocks⟩ := id hC
  generalize hH : s.heap = H at V ⊢
  clear hH
  have hl : lv_has ls 2 [(0, .ref o), (1, .int n)] := hl
  generalize hlo : ([] : List Loc) = locs at V ⊢
  clear hlo
  refine lv_iload_n hx hb dX7_street_0 rfl (lv_at hl 1 rfl) ?_
  refine lv_iconst (v := (nI 0)) hx hb dX7_street_1 (by decide +kernel) ?_
  refine lv_aload_n hx hb dX7_street_2 rfl (lv_at hl 0 rfl) ?_
  refine g_get hC V (ci := 7) uwX7 0 rfl rfl 5 (by decide) w_254 rfl rfl dX7_street_3 ?_
  refine g_get hC V (ci := 2) uwX2 1 rfl rfl 0 (by decide) w_128 rfl rfl dX7_street_6 ?_
  refine g_callS (wr := [(o, .inr (7, [.ref n0, .ref s0, .ref im, .ref iz, .ref rw, .ref t0, .ref u0, .ref h0, .ref y0, .null])), (t0, .inr (2, [.int (nI 0), .int (nI 0), .int (-1), .ref t1, .int (nI 0), .int (nI 0), .int (nI 0), .int (nI 0)])), (n0, .inr (5, [.int (nI 0), .int (nI 0), .int (nI 0), .int (nI 20), .int (nI 0), .ref n1, .ref n2, .ref n3, .ref n4, .ref n5, .ref n6, .ref n7, .ref n8, .ref n9, .ref n10])), (s0, .inr (5, [.int (nI 0), .int (nI 0), .int (nI 0), .int (nI 20), .int (nI 0), .ref s1, .ref s2, .ref s3, .ref s4, .ref s5, .ref s6, .ref s7, .ref s8, .ref s9, .ref s10])), (s9, .inl (T 0, 10, .inl (fun _ => nI 0)))]) (nA := 3) hC V hl.1 (c_isWithin l D T n (nI 0) (nI 0)) w_292 w_293 w_2 w_294 (by decide +kernel) rfl ⟨(Nat.le_of_ble_eq_true rfl), (Nat.le_of_ble_eq_true rfl)⟩ [] [0, 1, 2, 3, 4] rfl rfl rfl rfl (by decide) (Nat.le_of_ble_eq_true rfl) dX7_street_9 ⟨(Nat.le_of_ble_eq_true rfl), (Nat.le_of_ble_eq_true rfl)⟩ rfl (fun r w1 H locs hQ V => ?_)
  rcases hQ with ⟨rfl, rfl, f_1, f_2⟩ | ⟨rfl, rfl, f_3⟩
  · have V : gW D T A s [(o, .inr (7, [.ref n0, .ref s0, .ref im, .ref iz, .ref rw, .ref t0, .ref u0, .ref h0, .ref y0, .null])), (t0, .inr (2, [.int (nI 0), .int (nI 0), .int (-1), .ref t1, .int (nI 0), .int (nI 0), .int (nI 0), .int (nI 0)])), (n0, .inr (5, [.int (nI 0), .int (nI 0), .int (nI 0), .int (nI 20), .int (nI 0), .ref n1, .ref n2, .ref n3, .ref n4, .ref n5, .ref n6, .ref n7, .ref n8, .ref n9, .ref n10])), (s0, .inr (5, [.int (nI 0), .int (nI 0), .int (nI 0), .int (nI 20), .int (nI 0), .ref s1, .ref s2, .ref s3, .ref s4, .ref s5, .ref s6, .ref s7, .ref s8, .ref s9, .ref s10])), (s9, .inl (T 0, 10, .inl (fun _ => nI 0)))] H locs := V
    show W p l e _ s m args below meth c H locs _ _ _ (F0 m 12 ls [.int (nI 1)])
    obtain ⟨j, hj1, hj2, ej⟩ := g_rng (by decide) (by decide) f_1 f_2
    obtain rfl : j = 0 := by omega
    rw [ej] at hl
    refine lv_if_ne (tgt := 18) hx hb dX7_street_12 (by decide) (fun _ => ?_) (fun c => absurd (show (nI 1) = 0 from c) (by decide +kernel))
    refine lv_aload_n hx hb dX7_street_18 rfl (lv_at hl 0 rfl) ?_
    refine g_get hC V (ci := 7) uwX7 0 rfl rfl 5 (by decide) w_254 rfl rfl dX7_street_19 ?_
    refine lv_iload_n hx hb dX7_street_22 rfl (lv_at hl 1 rfl) ?_
    refine lv_aload_n hx hb dX7_street_23 rfl (lv_at hl 0 rfl) ?_
    refine g_get hC V (ci := 7) uwX7 0 rfl rfl 1 (by decide) w_250 rfl rfl dX7_street_24 ?_
    refine g_callV (wr := [(o, .inr (7, [.ref n0, .ref s0, .ref im, .ref iz, .ref rw, .ref t0, .ref u0, .ref h0, .ref y0, .null])), (n0, .inr (5, [.int (nI 0), .int (nI 0), .int (nI 0), .int (nI 20), .int (nI 0), .ref n1, .ref n2, .ref n3, .ref n4, .ref n5, .ref n6, .ref n7, .ref n8, .ref n9, .ref n10]))]) (nA := 2) hC V hl.1 (c_readStreet l D T t0 s0 t1 s1 s2 s3 s4 s5 s6 s7 s8 s9 s10) w_295 w_296 w_297 w_4 w_298 (by decide +kernel) rfl ⟨(Nat.le_of_ble_eq_true rfl), (Nat.le_of_ble_eq_true rfl)⟩ 1 (ci := 2) rfl rfl [1, 3, 4] [0, 2] rfl rfl rfl rfl (by decide) (Nat.le_of_ble_eq_true rfl) dX7_street_27 ⟨(Nat.le_of_ble_eq_true rfl), (Nat.le_of_ble_eq_true rfl)⟩ rfl (fun r w1 H locs hQ V => ?_)
    obtain ⟨g_4, rfl, rfl⟩ := hQ
    have V : gW D T A s [(o, .inr (7, [.ref n0, .ref s0, .ref im, .ref iz, .ref rw, .ref t0, .ref u0, .ref h0, .ref y0, .null])), (n0, .inr (5, [.int (nI 0), .int (nI 0), .int (nI 0), .int (nI 20), .int (nI 0), .ref n1, .ref n2, .ref n3, .ref n4, .ref n5, .ref n6, .ref n7, .ref n8, .ref n9, .ref n10])), (t0, .inr (2, [.int (nI 0), .int (nI 0), .int (-1), .ref t1, .int (nI 0), .int (nI 5), .int (nI 0), .int (nI 0)])), (s0, .inr (5, [.int (nI 0), .int (nI 0), .int (nI 0), .int (nI 20), .int (nI 0), .ref s1, .ref s2, .ref s3, .ref s4, .ref s5, .ref s6, .ref s7, .ref s8, .ref s9, .ref s10])), (s9, .inl (T 0, 10, .inl g_4))] H locs := V
    show W p l e _ s m args below meth c H locs _ _ _ (F0 m 30 ls [])
    refine lv_aload_n hx hb dX7_street_30 rfl (lv_at hl 0 rfl) ?_
    refine g_get hC V (ci := 7) uwX7 0 rfl rfl 5 (by decide) w_254 rfl rfl dX7_street_31 ?_
    refine g_get hC V (ci := 2) uwX2 2 rfl rfl 1 (by decide) w_131 rfl rfl dX7_street_34 ?_
    refine lv_if_eq (tgt := 51) hx hb dX7_street_37 (by decide) (fun _ => ?_) (fun c => absurd (show (nI 0) = 0 by decide +kernel) c)
    refine lv_aload_n hx hb dX7_street_51 rfl (lv_at hl 0 rfl) ?_
    refine g_get hC V (ci := 7) uwX7 0 rfl rfl 0 (by decide) w_249 rfl rfl dX7_street_52 ?_
    refine lv_aload_n hx hb dX7_street_55 rfl (lv_at hl 0 rfl) ?_
    refine g_get hC V (ci := 7) uwX7 0 rfl rfl 1 (by decide) w_250 rfl rfl dX7_street_56 ?_
    refine g_callV (wr := [(o, .inr (7, [.ref n0, .ref s0, .ref im, .ref iz, .ref rw, .ref t0, .ref u0, .ref h0, .ref y0, .null])), (t0, .inr (2, [.int (nI 0), .int (nI 0), .int (-1), .ref t1, .int (nI 0), .int (nI 5), .int (nI 0), .int (nI 0)])), (s9, .inl (T 0, 10, .inl g_4))]) (nA := 1) hC V hl.1 (c_takeFrom l D T n0 s0 (nI 0) (nI 0) (nI 0) (nI 20) (nI 0) n1 n2 n3 n4 n5 n6 n7 n8 n9 n10 0 s1 s2 s3 s4 s5 s6 s7 s8 s9 s10) w_413 w_414 w_415 w_3 w_416 (by decide +kernel) rfl ⟨(Nat.le_of_ble_eq_true rfl), (Nat.le_of_ble_eq_true rfl)⟩ 1 (ci := 5) rfl rfl [1, 3] [0, 2, 4] rfl rfl rfl rfl (by decide) (Nat.le_of_ble_eq_true rfl) dX7_street_59 ⟨(Nat.le_of_ble_eq_true rfl), (Nat.le_of_ble_eq_true rfl)⟩ rfl (fun r w1 H locs hQ V => ?_)
    obtain ⟨rfl, rfl⟩ := hQ
    have V : gW D T A s [(o, .inr (7, [.ref n0, .ref s0, .ref im, .ref iz, .ref rw, .ref t0, .ref u0, .ref h0, .ref y0, .null])), (t0, .inr (2, [.int (nI 0), .int (nI 0), .int (-1), .ref t1, .int (nI 0), .int (nI 5), .int (nI 0), .int (nI 0)])), (s9, .inl (T 0, 10, .inl g_4)), (n0, .inr (5, [.int (nI 0), .int (nI 0), .int (nI 0), .int (nI 20), .int (nI 0), .ref n1, .ref n2, .ref n3, .ref n4, .ref n5, .ref n6, .ref n7, .ref n8, .ref n9, .ref n10])), (s0, .inr (5, [.int (nI 0), .int (nI 0), .int (nI 0), .int (nI 20), .int (nI 0), .ref s1, .ref s2, .ref s3, .ref s4, .ref s5, .ref s6, .ref s7, .ref s8, .ref s9, .ref s10]))] H locs := V
    show W p l e _ s m args below meth c H locs _ _ _ (F0 m 62 ls [])
    refine lv_aload_n hx hb dX7_street_62 rfl (lv_at hl 0 rfl) ?_
    refine g_get hC V (ci := 7) uwX7 0 rfl rfl 0 (by decide) w_249 rfl rfl dX7_street_63 ?_
    refine g_get hC V (ci := 5) uwX5 3 rfl rfl 2 (by decide) w_43 rfl rfl dX7_street_66 ?_
    have V := V.sub (ws' := []) [] rfl rfl
    exact g_iret (Qr := (q_X7_street T o n n0 s0 im iz rw t0 u0 h0 y0 t1 n1 n2 n3 n4 n5 n6 n7 n8 n9 n10 s1 s2 s3 s4 s5 s6 s7 s8 s9 s10)) hC V ⟨(Nat.le_of_ble_eq_true rfl), (Nat.le_of_ble_eq_true rfl)⟩ ⟨(nI 0), rfl, rfl, (by first | exact pf_street_1 ‹_› | exact pf_street_2 ‹_› ‹_›)⟩ dX7_street_69
  · have V : gW D T A s [(o, .inr (7, [.ref n0, .ref s0, .ref im, .ref iz, .ref rw, .ref t0, .ref u0, .ref h0, .ref y0, .null])), (t0, .inr (2, [.int (nI 0), .int (nI 0), .int (-1), .ref t1, .int (nI 0), .int (nI 0), .int (nI 0), .int (nI 0)])), (n0, .inr (5, [.int (nI 0), .int (nI 0), .int (nI 0), .int (nI 20), .int (nI 0), .ref n1, .ref n2, .ref n3, .ref n4, .ref n5, .ref n6, .ref n7, .ref n8, .ref n9, .ref n10])), (s0, .inr (5, [.int (nI 0), .int (nI 0), .int (nI 0), .int (nI 20), .int (nI 0), .ref s1, .ref s2, .ref s3, .ref s4, .ref s5, .ref s6, .ref s7, .ref s8, .ref s9, .ref s10])), (s9, .inl (T 0, 10, .inl (fun _ => nI 0)))] H locs := V
    show W p l e _ s m args below meth c H locs _ _ _ (F0 m 12 ls [.int (nI 0)])
    refine lv_if_ne (tgt := 18) hx hb dX7_street_12 (by decide) (fun c => absurd (show (nI 0) = 0 by decide +kernel) c) (fun _ => ?_)
    refine lv_bipush (v := (-3)) hx hb dX7_street_15 (by decide +kernel) ?_
    have V := V.sub (ws' := []) [] rfl rfl
    exact g_iret (Qr := (q_X7_street T o n n0 s0 im iz rw t0 u0 h0 y0 t1 n1 n2 n3 n4 n5 n6 n7 n8 n9 n10 s1 s2 s3 s4 s5 s6 s7 s8 s9 s10)) hC V ⟨(Nat.le_of_ble_eq_true rfl), (Nat.le_of_ble_eq_true rfl)⟩ ⟨(-3), rfl, rfl, (by first | exact pf_street_1 ‹_› | exact pf_street_2 ‹_› ‹_›)⟩ dX7_street_17

def q_X7_custom (T : Nat → ClassId) (o : Nat) (n : Int32) (n0 : Nat) (s0 : Nat) (im : Nat) (iz : Nat) (rw : Nat) (t0 : Nat) (u0 : Nat) (h0 : Nat) (y0 : Nat) (n1 : Nat) (n2 : Nat) (n3 : Nat) (n4 : Nat) (n5 : Nat) (n6 : Nat) (n7 : Nat) (n8 : Nat) (n9 : Nat) (n10 : Nat) (s1 : Nat) (s2 : Nat) (s3 : Nat) (s4 : Nat) (s5 : Nat) (s6 : Nat) (s7 : Nat) (s8 : Nat) (s9 : Nat) (s10 : Nat) : Option Value → va_W → Prop := fun rr ww => (∃ (z : Int32), rr = some (.int z) ∧ ww = [] ∧ z = pf_time n)
set_option maxHeartbeats 4000000 in
set_option maxRecDepth 100000 in
theorem p_X7_custom (l : Launch) (D : va_G) (T : Nat → ClassId) (o : Nat) (n : Int32) (n0 : Nat) (s0 : Nat) (im : Nat) (iz : Nat) (rw : Nat) (t0 : Nat) (u0 : Nat) (h0 : Nat) (y0 : Nat) (n1 : Nat) (n2 : Nat) (n3 : Nat) (n4 : Nat) (n5 : Nat) (n6 : Nat) (n7 : Nat) (n8 : Nat) (n9 : Nat) (n10 : Nat) (s1 : Nat) (s2 : Nat) (s3 : Nat) (s4 : Nat) (s5 : Nat) (s6 : Nat) (s7 : Nat) (s8 : Nat) (s9 : Nat) (s10 : Nat) : Ct l yX7_custom cX7_custom 3 (some .int) 5 0 0 D T [.ref o, .int n] [(o, .inr (7, [.ref n0, .ref s0, .ref im, .ref iz, .ref rw, .ref t0, .ref u0, .ref h0, .ref y0, .null])), (n0, .inr (5, [.int (nI 0), .int (nI 0), .int (nI 0), .int (nI 20), .int (nI 0), .ref n1, .ref n2, .ref n3, .ref n4, .ref n5, .ref n6, .ref n7, .ref n8, .ref n9, .ref n10])), (n1, .inl (T 0, 10, .inl (fun _ => nI 0))), (n2, .inl (T 0, 10, .inl (fun _ => nI 0))), (n3, .inl (T 0, 10, .inl (fun _ => nI 0))), (n4, .inl (T 0, 10, .inl (fun _ => nI 0))), (n5, .inl (T 0, 10, .inl (fun _ => nI 0))), (n6, .inl (T 0, 10, .inl (fun _ => nI 0))), (n7, .inl (T 0, 10, .inl (fun _ => nI 0))), (n8, .inl (T 0, 10, .inl (fun _ => nI 0))), (n9, .inl (T 0, 10, .inl (fun _ => nI 0))), (n10, .inl (T 0, 10, .inl (fun _ => nI 0))), (s0, .inr (5, [.int (nI 0), .int (nI 0), .int (nI 0), .int (nI 20), .int (nI 0), .ref s1, .ref s2, .ref s3, .ref s4, .ref s5, .ref s6, .ref s7, .ref s8, .ref s9, .ref s10])), (s1, .inl (T 0, 10, .inl (fun _ => nI 0))), (s2, .inl (T 0, 10, .inl (fun _ => nI 0))), (s3, .inl (T 0, 10, .inl (fun _ => nI 0))), (s4, .inl (T 0, 10, .inl (fun _ => nI 0))), (s5, .inl (T 0, 10, .inl (fun _ => nI 0))), (s6, .inl (T 0, 10, .inl (fun _ => nI 0))), (s7, .inl (T 0, 10, .inl (fun _ => nI 0))), (s8, .inl (T 0, 10, .inl (fun _ => nI 0))), (s9, .inl (T 0, 10, .inl (fun _ => nI 0))), (s10, .inl (T 0, 10, .inl (fun _ => nI 0)))] (q_X7_custom T o n n0 s0 im iz rw t0 u0 h0 y0 n1 n2 n3 n4 n5 n6 n7 n8 n9 n10 s1 s2 s3 s4 s5 s6 s7 s8 s9 s10) := by
  refine Ct.of (cc := cX7_custom) (maxL := 3) (ret := (some .int)) (by decide) (Nat.le_of_ble_eq_true rfl) ?_
  intro p e s m args below meth c A ls hC hnm V hl
  obtain ⟨hx, hb, hr, hml, hown, hts, hlocks⟩ := id hC
  generalize hH : s.heap = H at V ⊢
  clear hH
  have hl : lv_has ls 3 [(0, .ref o), (1, .int n)] := hl
  generalize hlo : ([] : List Loc) = locs at V ⊢
  clear hlo
  refine lv_aload_n hx hb dX7_custom_0 rfl (lv_at hl 0 rfl) ?_
  refine lv_iload_n hx hb dX7_custom_1 rfl (lv_at hl 1 rfl) ?_
  refine lv_sipush (v := (nI 200)) hx hb dX7_custom_2 (by decide +kernel) ?_
  refine g_callV (wr := [(s0, .inr (5, [.int (nI 0), .int (nI 0), .int (nI 0), .int (nI 20), .int (nI 0), .ref s1, .ref s2, .ref s3, .ref s4, .ref s5, .ref s6, .ref s7, .ref s8, .ref s9, .ref s10])), (s1, .inl (T 0, 10, .inl (fun _ => nI 0))), (s2, .inl (T 0, 10, .inl (fun _ => nI 0))), (s3, .inl (T 0, 10, .inl (fun _ => nI 0))), (s4, .inl (T 0, 10, .inl (fun _ => nI 0))), (s5, .inl (T 0, 10, .inl (fun _ => nI 0))), (s6, .inl (T 0, 10, .inl (fun _ => nI 0))), (s7, .inl (T 0, 10, .inl (fun _ => nI 0))), (s8, .inl (T 0, 10, .inl (fun _ => nI 0))), (s9, .inl (T 0, 10, .inl (fun _ => nI 0))), (s10, .inl (T 0, 10, .inl (fun _ => nI 0)))]) (nA := 2) hC V hl.1 (c_refusedMinutes l D T o n 200 n0 s0 im iz rw t0 u0 h0 y0 n1 n2 n3 n4 n5 n6 n7 n8 n9 n10 (by first | assumption | omega | decide)) w_532 w_534 w_s12 w_2 w_535 (by decide +kernel) rfl ⟨(Nat.le_of_ble_eq_true rfl), (Nat.le_of_ble_eq_true rfl)⟩ 0 (ci := 7) rfl rfl [0, 1, 2, 3, 4, 5, 6, 7, 8, 9, 10, 11] [12, 13, 14, 15, 16, 17, 18, 19, 20, 21, 22] rfl rfl rfl rfl (by decide) (Nat.le_of_ble_eq_true rfl) dX7_custom_5 ⟨(Nat.le_of_ble_eq_true rfl), (Nat.le_of_ble_eq_true rfl)⟩ rfl (fun r w1 H locs hQ V => ?_)
  rcases hQ with ⟨rfl, rfl, f_1⟩ | ⟨jj, rfl, rfl, f_2, f_3, f_4, f_5, f_6⟩
  · have V : gW D T A s [(s0, .inr (5, [.int (nI 0), .int (nI 0), .int (nI 0), .int (nI 20), .int (nI 0), .ref s1, .ref s2, .ref s3, .ref s4, .ref s5, .ref s6, .ref s7, .ref s8, .ref s9, .ref s10])), (s1, .inl (T 0, 10, .inl (fun _ => nI 0))), (s2, .inl (T 0, 10, .inl (fun _ => nI 0))), (s3, .inl (T 0, 10, .inl (fun _ => nI 0))), (s4, .inl (T 0, 10, .inl (fun _ => nI 0))), (s5, .inl (T 0, 10, .inl (fun _ => nI 0))), (s6, .inl (T 0, 10, .inl (fun _ => nI 0))), (s7, .inl (T 0, 10, .inl (fun _ => nI 0))), (s8, .inl (T 0, 10, .inl (fun _ => nI 0))), (s9, .inl (T 0, 10, .inl (fun _ => nI 0))), (s10, .inl (T 0, 10, .inl (fun _ => nI 0))), (o, .inr (7, [.ref n0, .ref s0, .ref im, .ref iz, .ref rw, .ref t0, .ref u0, .ref h0, .ref y0, .null])), (n0, .inr (5, [.int (nI 0), .int (nI 0), .int (nI 0), .int (nI 20), .int (nI 0), .ref n1, .ref n2, .ref n3, .ref n4, .ref n5, .ref n6, .ref n7, .ref n8, .ref n9, .ref n10])), (n1, .inl (T 0, 10, .inl (fun _ => nI 0))), (n2, .inl (T 0, 10, .inl (fun _ => nI 0))), (n3, .inl (T 0, 10, .inl (fun _ => nI 0))), (n4, .inl (T 0, 10, .inl (fun _ => nI 0))), (n5, .inl (T 0, 10, .inl (fun _ => nI 0))), (n6, .inl (T 0, 10, .inl (fun _ => nI 0))), (n7, .inl (T 0, 10, .inl (fun _ => nI 0))), (n8, .inl (T 0, 10, .inl (fun _ => nI 0))), (n9, .inl (T 0, 10, .inl (fun _ => nI 0))), (n10, .inl (T 0, 10, .inl (fun _ => nI 0)))] H locs := V
    show W p l e _ s m args below meth c H locs _ _ _ (F0 m 8 ls [.int (-3)])
    refine lv_istore_n (lv' := [(2, .int (-3)), (0, .ref o), (1, .int n)]) hx hb dX7_custom_8 rfl hl (by decide) rfl (fun ls hl => ?_)
    refine lv_iload_n hx hb dX7_custom_9 rfl (lv_at hl 0 rfl) ?_
    refine lv_if_eq (tgt := 17) hx hb dX7_custom_10 (by decide) (fun c => absurd (show (-3 : Int32) = 0 from c) (by decide +kernel)) (fun _ => ?_)
    refine lv_iload_n hx hb dX7_custom_13 rfl (lv_at hl 0 rfl) ?_
    refine lv_goto (tgt := 25) hx hb dX7_custom_14 (by decide) ?_
    have V := V.sub (ws' := []) [] rfl rfl
    exact g_iret (Qr := (q_X7_custom T o n n0 s0 im iz rw t0 u0 h0 y0 n1 n2 n3 n4 n5 n6 n7 n8 n9 n10 s1 s2 s3 s4 s5 s6 s7 s8 s9 s10)) hC V ⟨(Nat.le_of_ble_eq_true rfl), (Nat.le_of_ble_eq_true rfl)⟩ ⟨(-3), rfl, rfl, (by first | exact pf_time_1 ‹_› | exact pf_time_2 ‹_› ‹_›)⟩ dX7_custom_25
  · have V : gW D T A s [(s0, .inr (5, [.int (nI 0), .int (nI 0), .int (nI 0), .int (nI 20), .int (nI 0), .ref s1, .ref s2, .ref s3, .ref s4, .ref s5, .ref s6, .ref s7, .ref s8, .ref s9, .ref s10])), (s1, .inl (T 0, 10, .inl (fun _ => nI 0))), (s2, .inl (T 0, 10, .inl (fun _ => nI 0))), (s3, .inl (T 0, 10, .inl (fun _ => nI 0))), (s4, .inl (T 0, 10, .inl (fun _ => nI 0))), (s5, .inl (T 0, 10, .inl (fun _ => nI 0))), (s6, .inl (T 0, 10, .inl (fun _ => nI 0))), (s7, .inl (T 0, 10, .inl (fun _ => nI 0))), (s8, .inl (T 0, 10, .inl (fun _ => nI 0))), (s9, .inl (T 0, 10, .inl (fun _ => nI 0))), (s10, .inl (T 0, 10, .inl (fun _ => nI 0))), (o, .inr (7, [.ref n0, .ref s0, .ref im, .ref iz, .ref rw, .ref t0, .ref u0, .ref h0, .ref y0, .null])), (n0, .inr (5, [.int (nI 0), .int (nI 0), .int (nI 0), .int (nI 20), .int (nI 0), .ref n1, .ref n2, .ref n3, .ref n4, .ref n5, .ref n6, .ref n7, .ref n8, .ref n9, .ref n10])), (n1, .inl (T 0, 10, .inl (fun _ => nI 0))), (n2, .inl (T 0, 10, .inl (fun _ => nI 0))), (n3, .inl (T 0, 10, .inl (fun _ => nI 0))), (n4, .inl (T 0, 10, .inl (fun _ => nI 0))), (n5, .inl (T 0, 10, .inl (fun _ => nI 0))), (n6, .inl (T 0, 10, .inl (fun _ => nI 0))), (n7, .inl (T 0, 10, .inl (fun _ => nI 0))), (n8, .inl (T 0, 10, .inl (fun _ => nI 0))), (n9, .inl (T 0, 10, .inl (fun _ => nI 0))), (n10, .inl (T 0, 10, .inl (fun _ => nI 0)))] H locs := V
    show W p l e _ s m args below meth c H locs _ _ _ (F0 m 8 ls [.int (nI 0)])
    rw [f_6] at hl
    refine lv_istore_n (lv' := [(2, .int (nI 0)), (0, .ref o), (1, .int (nI jj))]) hx hb dX7_custom_8 rfl hl (by decide) rfl (fun ls hl => ?_)
    refine lv_iload_n hx hb dX7_custom_9 rfl (lv_at hl 0 rfl) ?_
    refine lv_if_eq (tgt := 17) hx hb dX7_custom_10 (by decide) (fun _ => ?_) (fun c => absurd (show (nI 0) = 0 by decide +kernel) c)
    refine lv_aload_n hx hb dX7_custom_17 rfl (lv_at hl 1 rfl) ?_
    refine lv_iload_n hx hb dX7_custom_18 rfl (lv_at hl 2 rfl) ?_
    refine lv_iconst (v := (nI 0)) hx hb dX7_custom_19 (by decide +kernel) ?_
    refine lv_iconst (v := (-1)) hx hb dX7_custom_20 (by decide +kernel) ?_
    refine lv_iconst (v := (nI 0)) hx hb dX7_custom_21 (by decide +kernel) ?_
    refine g_callV (wr := []) (nA := 4) hC V hl.1 (c_doneByCustom l D T o jj (nI 0) (-1) (nI 0) n0 s0 im iz rw t0 u0 h0 y0 n1 n2 n3 n4 n5 n6 n7 n8 n9 n10 (nI 0) (nI 0) (nI 0) (nI 20) (nI 0) s1 s2 s3 s4 s5 s6 s7 s8 s9 s10 (by first | assumption | omega | decide)) w_536 w_538 w_s13 w_2 w_539 (by decide +kernel) rfl ⟨(Nat.le_of_ble_eq_true rfl), (Nat.le_of_ble_eq_true rfl)⟩ 11 (ci := 7) rfl rfl [11, 12, 13, 14, 15, 16, 17, 18, 19, 20, 21, 22, 0, 1, 2, 3, 4, 5, 6, 7, 8, 9, 10] [] rfl rfl rfl rfl (by decide) (Nat.le_of_ble_eq_true rfl) dX7_custom_22 ⟨(Nat.le_of_ble_eq_true rfl), (Nat.le_of_ble_eq_true rfl)⟩ rfl (fun r w1 H locs hQ V => ?_)
    obtain ⟨z_7, rfl, rfl⟩ := hQ
    have V : gW D T A s [(o, .inr (7, [.ref n0, .ref s0, .ref im, .ref iz, .ref rw, .ref t0, .ref u0, .ref h0, .ref y0, .null])), (n0, .inr (5, [.int (nI 0), .int (nI 0), .int (nI 0), .int (nI 20), .int (nI 0), .ref n1, .ref n2, .ref n3, .ref n4, .ref n5, .ref n6, .ref n7, .ref n8, .ref n9, .ref n10])), (n1, .inl (T 0, 10, .inl (fun _ => nI 0))), (n2, .inl (T 0, 10, .inl (fun _ => nI 0))), (n3, .inl (T 0, 10, .inl (fun _ => nI 0))), (n4, .inl (T 0, 10, .inl (fun _ => nI 0))), (n5, .inl (T 0, 10, .inl (fun _ => nI 0))), (n6, .inl (T 0, 10, .inl (fun _ => nI 0))), (n7, .inl (T 0, 10, .inl (fun _ => nI 0))), (n8, .inl (T 0, 10, .inl (fun _ => nI 0))), (n9, .inl (T 0, 10, .inl (fun _ => nI 0))), (n10, .inl (T 0, 10, .inl (fun _ => nI 0))), (s0, .inr (5, [.int (nI 0), .int (nI z_7), .int (nI 0), .int (nI 20), .int (nI 0), .ref s1, .ref s2, .ref s3, .ref s4, .ref s5, .ref s6, .ref s7, .ref s8, .ref s9, .ref s10])), (s1, .inl (T 0, 10, .inl (fun _ => nI 0))), (s2, .inl (T 0, 10, .inl (fun _ => nI 0))), (s3, .inl (T 0, 10, .inl (fun _ => nI 0))), (s4, .inl (T 0, 10, .inl (fun _ => nI 0))), (s5, .inl (T 0, 10, .inl (fun _ => nI 0))), (s6, .inl (T 0, 10, .inl (fun _ => nI 0))), (s7, .inl (T 0, 10, .inl (fun _ => nI 0))), (s8, .inl (T 0, 10, .inl (fun _ => nI 0))), (s9, .inl (T 0, 10, .inl (fun _ => nI 0))), (s10, .inl (T 0, 10, .inl (fun _ => nI 0)))] H locs := V
    show W p l e _ s m args below meth c H locs _ _ _ (F0 m 25 ls [.int (nI 0)])
    have V := V.sub (ws' := []) [] rfl rfl
    exact g_iret (Qr := (q_X7_custom T o n n0 s0 im iz rw t0 u0 h0 y0 n1 n2 n3 n4 n5 n6 n7 n8 n9 n10 s1 s2 s3 s4 s5 s6 s7 s8 s9 s10)) hC V ⟨(Nat.le_of_ble_eq_true rfl), (Nat.le_of_ble_eq_true rfl)⟩ ⟨(nI 0), rfl, rfl, (by first | exact pf_time_1 ‹_› | exact pf_time_2 ‹_› ‹_›)⟩ dX7_custom_25

def q_X7_live (T : Nat → ClassId) (o : Nat) (n : Int32) (n0 : Nat) (s0 : Nat) (im : Nat) (iz : Nat) (rw : Nat) (t0 : Nat) (u0 : Nat) (h0 : Nat) (y0 : Nat) (n1 : Nat) (n2 : Nat) (n3 : Nat) (n4 : Nat) (n5 : Nat) (n6 : Nat) (n7 : Nat) (n8 : Nat) (n9 : Nat) (n10 : Nat) : Option Value → va_W → Prop := fun rr ww => (∃ (z : Int32), rr = some (.int z) ∧ ww = [] ∧ z = pf_time n)
set_option maxHeartbeats 4000000 in
set_option maxRecDepth 100000 in
theorem p_X7_live (l : Launch) (D : va_G) (T : Nat → ClassId) (o : Nat) (n : Int32) (n0 : Nat) (s0 : Nat) (im : Nat) (iz : Nat) (rw : Nat) (t0 : Nat) (u0 : Nat) (h0 : Nat) (y0 : Nat) (n1 : Nat) (n2 : Nat) (n3 : Nat) (n4 : Nat) (n5 : Nat) (n6 : Nat) (n7 : Nat) (n8 : Nat) (n9 : Nat) (n10 : Nat) : Ct l yX7_live cX7_live 3 (some .int) 4 0 0 D T [.ref o, .int n] [(o, .inr (7, [.ref n0, .ref s0, .ref im, .ref iz, .ref rw, .ref t0, .ref u0, .ref h0, .ref y0, .null])), (n0, .inr (5, [.int (nI 0), .int (nI 0), .int (nI 0), .int (nI 20), .int (nI 0), .ref n1, .ref n2, .ref n3, .ref n4, .ref n5, .ref n6, .ref n7, .ref n8, .ref n9, .ref n10])), (n1, .inl (T 0, 10, .inl (fun _ => nI 0))), (n2, .inl (T 0, 10, .inl (fun _ => nI 0))), (n3, .inl (T 0, 10, .inl (fun _ => nI 0))), (n4, .inl (T 0, 10, .inl (fun _ => nI 0))), (n5, .inl (T 0, 10, .inl (fun _ => nI 0))), (n6, .inl (T 0, 10, .inl (fun _ => nI 0))), (n7, .inl (T 0, 10, .inl (fun _ => nI 0))), (n8, .inl (T 0, 10, .inl (fun _ => nI 0))), (n9, .inl (T 0, 10, .inl (fun _ => nI 0))), (n10, .inl (T 0, 10, .inl (fun _ => nI 0)))] (q_X7_live T o n n0 s0 im iz rw t0 u0 h0 y0 n1 n2 n3 n4 n5 n6 n7 n8 n9 n10) := by
  refine Ct.of (cc := cX7_live) (maxL := 3) (ret := (some .int)) (by decide) (Nat.le_of_ble_eq_true rfl) ?_
  intro p e s m args below meth c A ls hC hnm V hl
  obtain ⟨hx, hb, hr, hml, hown, hts, hlocks⟩ := id hC
  generalize hH : s.heap = H at V ⊢
  clear hH
  have hl : lv_has ls 3 [(0, .ref o), (1, .int n)] := hl
  generalize hlo : ([] : List Loc) = locs at V ⊢
  clear hlo
  refine lv_aload_n hx hb dX7_live_0 rfl (lv_at hl 0 rfl) ?_
  refine lv_iload_n hx hb dX7_live_1 rfl (lv_at hl 1 rfl) ?_
  refine lv_sipush (v := (nI 200)) hx hb dX7_live_2 (by decide +kernel) ?_
  refine g_callV (wr := []) (nA := 2) hC V hl.1 (c_refusedMinutes l D T o n 200 n0 s0 im iz rw t0 u0 h0 y0 n1 n2 n3 n4 n5 n6 n7 n8 n9 n10 (by first | assumption | omega | decide)) w_532 w_534 w_s12 w_2 w_535 (by decide +kernel) rfl ⟨(Nat.le_of_ble_eq_true rfl), (Nat.le_of_ble_eq_true rfl)⟩ 0 (ci := 7) rfl rfl [0, 1, 2, 3, 4, 5, 6, 7, 8, 9, 10, 11] [] rfl rfl rfl rfl (by decide) (Nat.le_of_ble_eq_true rfl) dX7_live_5 ⟨(Nat.le_of_ble_eq_true rfl), (Nat.le_of_ble_eq_true rfl)⟩ rfl (fun r w1 H locs hQ V => ?_)
  rcases hQ with ⟨rfl, rfl, f_1⟩ | ⟨jj, rfl, rfl, f_2, f_3, f_4, f_5, f_6⟩
  · have V : gW D T A s [(o, .inr (7, [.ref n0, .ref s0, .ref im, .ref iz, .ref rw, .ref t0, .ref u0, .ref h0, .ref y0, .null])), (n0, .inr (5, [.int (nI 0), .int (nI 0), .int (nI 0), .int (nI 20), .int (nI 0), .ref n1, .ref n2, .ref n3, .ref n4, .ref n5, .ref n6, .ref n7, .ref n8, .ref n9, .ref n10])), (n1, .inl (T 0, 10, .inl (fun _ => nI 0))), (n2, .inl (T 0, 10, .inl (fun _ => nI 0))), (n3, .inl (T 0, 10, .inl (fun _ => nI 0))), (n4, .inl (T 0, 10, .inl (fun _ => nI 0))), (n5, .inl (T 0, 10, .inl (fun _ => nI 0))), (n6, .inl (T 0, 10, .inl (fun _ => nI 0))), (n7, .inl (T 0, 10, .inl (fun _ => nI 0))), (n8, .inl (T 0, 10, .inl (fun _ => nI 0))), (n9, .inl (T 0, 10, .inl (fun _ => nI 0))), (n10, .inl (T 0, 10, .inl (fun _ => nI 0)))] H locs := V
    show W p l e _ s m args below meth c H locs _ _ _ (F0 m 8 ls [.int (-3)])
    refine lv_istore_n (lv' := [(2, .int (-3)), (0, .ref o), (1, .int n)]) hx hb dX7_live_8 rfl hl (by decide) rfl (fun ls hl => ?_)
    refine lv_iload_n hx hb dX7_live_9 rfl (lv_at hl 0 rfl) ?_
    refine lv_if_eq (tgt := 17) hx hb dX7_live_10 (by decide) (fun c => absurd (show (-3 : Int32) = 0 from c) (by decide +kernel)) (fun _ => ?_)
    refine lv_iload_n hx hb dX7_live_13 rfl (lv_at hl 0 rfl) ?_
    refine lv_goto (tgt := 28) hx hb dX7_live_14 (by decide) ?_
    have V := V.sub (ws' := []) [] rfl rfl
    exact g_iret (Qr := (q_X7_live T o n n0 s0 im iz rw t0 u0 h0 y0 n1 n2 n3 n4 n5 n6 n7 n8 n9 n10)) hC V ⟨(Nat.le_of_ble_eq_true rfl), (Nat.le_of_ble_eq_true rfl)⟩ ⟨(-3), rfl, rfl, (by first | exact pf_time_1 ‹_› | exact pf_time_2 ‹_› ‹_›)⟩ dX7_live_28
  · have V : gW D T A s [(o, .inr (7, [.ref n0, .ref s0, .ref im, .ref iz, .ref rw, .ref t0, .ref u0, .ref h0, .ref y0, .null])), (n0, .inr (5, [.int (nI 0), .int (nI 0), .int (nI 0), .int (nI 20), .int (nI 0), .ref n1, .ref n2, .ref n3, .ref n4, .ref n5, .ref n6, .ref n7, .ref n8, .ref n9, .ref n10])), (n1, .inl (T 0, 10, .inl (fun _ => nI 0))), (n2, .inl (T 0, 10, .inl (fun _ => nI 0))), (n3, .inl (T 0, 10, .inl (fun _ => nI 0))), (n4, .inl (T 0, 10, .inl (fun _ => nI 0))), (n5, .inl (T 0, 10, .inl (fun _ => nI 0))), (n6, .inl (T 0, 10, .inl (fun _ => nI 0))), (n7, .inl (T 0, 10, .inl (fun _ => nI 0))), (n8, .inl (T 0, 10, .inl (fun _ => nI 0))), (n9, .inl (T 0, 10, .inl (fun _ => nI 0))), (n10, .inl (T 0, 10, .inl (fun _ => nI 0)))] H locs := V
    show W p l e _ s m args below meth c H locs _ _ _ (F0 m 8 ls [.int (nI 0)])
    rw [f_6] at hl
    refine lv_istore_n (lv' := [(2, .int (nI 0)), (0, .ref o), (1, .int (nI jj))]) hx hb dX7_live_8 rfl hl (by decide) rfl (fun ls hl => ?_)
    refine lv_iload_n hx hb dX7_live_9 rfl (lv_at hl 0 rfl) ?_
    refine lv_if_eq (tgt := 17) hx hb dX7_live_10 (by decide) (fun _ => ?_) (fun c => absurd (show (nI 0) = 0 by decide +kernel) c)
    refine lv_aload_n hx hb dX7_live_17 rfl (lv_at hl 1 rfl) ?_
    refine g_get hC V (ci := 7) uwX7 0 rfl rfl 0 (by decide) w_249 rfl rfl dX7_live_18 ?_
    refine lv_iload_n hx hb dX7_live_21 rfl (lv_at hl 2 rfl) ?_
    refine lv_iconst (v := (nI 0)) hx hb dX7_live_22 (by decide +kernel) ?_
    refine lv_iconst (v := (-1)) hx hb dX7_live_23 (by decide +kernel) ?_
    refine lv_iconst (v := (nI 0)) hx hb dX7_live_24 (by decide +kernel) ?_
    refine g_callV (wr := [(o, .inr (7, [.ref n0, .ref s0, .ref im, .ref iz, .ref rw, .ref t0, .ref u0, .ref h0, .ref y0, .null])), (n1, .inl (T 0, 10, .inl (fun _ => nI 0))), (n2, .inl (T 0, 10, .inl (fun _ => nI 0))), (n3, .inl (T 0, 10, .inl (fun _ => nI 0))), (n4, .inl (T 0, 10, .inl (fun _ => nI 0))), (n5, .inl (T 0, 10, .inl (fun _ => nI 0))), (n6, .inl (T 0, 10, .inl (fun _ => nI 0))), (n7, .inl (T 0, 10, .inl (fun _ => nI 0))), (n8, .inl (T 0, 10, .inl (fun _ => nI 0))), (n9, .inl (T 0, 10, .inl (fun _ => nI 0))), (n10, .inl (T 0, 10, .inl (fun _ => nI 0)))]) (nA := 4) hC V hl.1 (c_passAll l D T n0 jj (nI 0) (-1) (nI 0) 0 n1 n2 n3 n4 n5 n6 n7 n8 n9 n10 (by first | assumption | omega | decide)) w_540 w_541 w_542 w_3 w_543 (by decide +kernel) rfl ⟨(Nat.le_of_ble_eq_true rfl), (Nat.le_of_ble_eq_true rfl)⟩ 1 (ci := 5) rfl rfl [1] [0, 2, 3, 4, 5, 6, 7, 8, 9, 10, 11] rfl rfl rfl rfl (by decide) (Nat.le_of_ble_eq_true rfl) dX7_live_25 ⟨(Nat.le_of_ble_eq_true rfl), (Nat.le_of_ble_eq_true rfl)⟩ rfl (fun r w1 H locs hQ V => ?_)
    obtain ⟨z_7, rfl, rfl⟩ := hQ
    have V : gW D T A s [(o, .inr (7, [.ref n0, .ref s0, .ref im, .ref iz, .ref rw, .ref t0, .ref u0, .ref h0, .ref y0, .null])), (n1, .inl (T 0, 10, .inl (fun _ => nI 0))), (n2, .inl (T 0, 10, .inl (fun _ => nI 0))), (n3, .inl (T 0, 10, .inl (fun _ => nI 0))), (n4, .inl (T 0, 10, .inl (fun _ => nI 0))), (n5, .inl (T 0, 10, .inl (fun _ => nI 0))), (n6, .inl (T 0, 10, .inl (fun _ => nI 0))), (n7, .inl (T 0, 10, .inl (fun _ => nI 0))), (n8, .inl (T 0, 10, .inl (fun _ => nI 0))), (n9, .inl (T 0, 10, .inl (fun _ => nI 0))), (n10, .inl (T 0, 10, .inl (fun _ => nI 0))), (n0, .inr (5, [.int (nI 0), .int (nI z_7), .int (nI 0), .int (nI 20), .int (nI 0), .ref n1, .ref n2, .ref n3, .ref n4, .ref n5, .ref n6, .ref n7, .ref n8, .ref n9, .ref n10]))] H locs := V
    show W p l e _ s m args below meth c H locs _ _ _ (F0 m 28 ls [.int (nI 0)])
    have V := V.sub (ws' := []) [] rfl rfl
    exact g_iret (Qr := (q_X7_live T o n n0 s0 im iz rw t0 u0 h0 y0 n1 n2 n3 n4 n5 n6 n7 n8 n9 n10)) hC V ⟨(Nat.le_of_ble_eq_true rfl), (Nat.le_of_ble_eq_true rfl)⟩ ⟨(nI 0), rfl, rfl, (by first | exact pf_time_1 ‹_› | exact pf_time_2 ‹_› ‹_›)⟩ dX7_live_28

def q_X7_day (T : Nat → ClassId) (o : Nat) (seed : Int32) (n : Int32) (n0 : Nat) (s0 : Nat) (im : Nat) (iz : Nat) (rw : Nat) (t0 : Nat) (u0 : Nat) (h0 : Nat) (y0 : Nat) (n1 : Nat) (n2 : Nat) (n3 : Nat) (n4 : Nat) (n5 : Nat) (n6 : Nat) (n7 : Nat) (n8 : Nat) (n9 : Nat) (n10 : Nat) : Option Value → va_W → Prop := fun rr ww => (∃ (z : Int32), rr = some (.int z) ∧ ww = [] ∧ z = pf_day n)
set_option maxHeartbeats 4000000 in
set_option maxRecDepth 100000 in
theorem p_X7_day (l : Launch) (D : va_G) (T : Nat → ClassId) (o : Nat) (seed : Int32) (n : Int32) (n0 : Nat) (s0 : Nat) (im : Nat) (iz : Nat) (rw : Nat) (t0 : Nat) (u0 : Nat) (h0 : Nat) (y0 : Nat) (n1 : Nat) (n2 : Nat) (n3 : Nat) (n4 : Nat) (n5 : Nat) (n6 : Nat) (n7 : Nat) (n8 : Nat) (n9 : Nat) (n10 : Nat) : Ct l yX7_day cX7_day 11 (some .int) 2 0 0 D T [.ref o, .int seed, .int n] [(o, .inr (7, [.ref n0, .ref s0, .ref im, .ref iz, .ref rw, .ref t0, .ref u0, .ref h0, .ref y0, .null])), (n0, .inr (5, [.int (nI 0), .int (nI 0), .int (nI 0), .int (nI 20), .int (nI 0), .ref n1, .ref n2, .ref n3, .ref n4, .ref n5, .ref n6, .ref n7, .ref n8, .ref n9, .ref n10])), (n1, .inl (T 0, 10, .inl (fun _ => nI 0))), (n2, .inl (T 0, 10, .inl (fun _ => nI 0))), (n3, .inl (T 0, 10, .inl (fun _ => nI 0))), (n4, .inl (T 0, 10, .inl (fun _ => nI 0))), (n5, .inl (T 0, 10, .inl (fun _ => nI 0))), (n6, .inl (T 0, 10, .inl (fun _ => nI 0))), (n7, .inl (T 0, 10, .inl (fun _ => nI 0))), (n8, .inl (T 0, 10, .inl (fun _ => nI 0))), (n9, .inl (T 0, 10, .inl (fun _ => nI 0))), (n10, .inl (T 0, 10, .inl (fun _ => nI 0)))] (q_X7_day T o seed n n0 s0 im iz rw t0 u0 h0 y0 n1 n2 n3 n4 n5 n6 n7 n8 n9 n10) := by
  refine Ct.of (cc := cX7_day) (maxL := 11) (ret := (some .int)) (by decide) (Nat.le_of_ble_eq_true rfl) ?_
  intro p e s m args below meth c A ls hC hnm V hl
  obtain ⟨hx, hb, hr, hml, hown, hts, hlocks⟩ := id hC
  generalize hH : s.heap = H at V ⊢
  clear hH
  have hl : lv_has ls 11 [(0, .ref o), (1, .int seed), (2, .int n)] := hl
  generalize hlo : ([] : List Loc) = locs at V ⊢
  clear hlo
  refine lv_aload_n hx hb dX7_day_0 rfl (lv_at hl 0 rfl) ?_
  refine lv_iload_n hx hb dX7_day_1 rfl (lv_at hl 2 rfl) ?_
  refine lv_bipush (v := (nI 60)) hx hb dX7_day_2 (by decide +kernel) ?_
  refine g_callV (wr := []) (nA := 2) hC V hl.1 (c_refusedMinutes l D T o n 60 n0 s0 im iz rw t0 u0 h0 y0 n1 n2 n3 n4 n5 n6 n7 n8 n9 n10 (by first | assumption | omega | decide)) w_532 w_534 w_s12 w_2 w_535 (by decide +kernel) rfl ⟨(Nat.le_of_ble_eq_true rfl), (Nat.le_of_ble_eq_true rfl)⟩ 0 (ci := 7) rfl rfl [0, 1, 2, 3, 4, 5, 6, 7, 8, 9, 10, 11] [] rfl rfl rfl rfl (by decide) (Nat.le_of_ble_eq_true rfl) dX7_day_4 ⟨(Nat.le_of_ble_eq_true rfl), (Nat.le_of_ble_eq_true rfl)⟩ rfl (fun r w1 H locs hQ V => ?_)
  rcases hQ with ⟨rfl, rfl, f_1⟩ | ⟨jj, rfl, rfl, f_2, f_3, f_4, f_5, f_6⟩
  · have V : gW D T A s [(o, .inr (7, [.ref n0, .ref s0, .ref im, .ref iz, .ref rw, .ref t0, .ref u0, .ref h0, .ref y0, .null])), (n0, .inr (5, [.int (nI 0), .int (nI 0), .int (nI 0), .int (nI 20), .int (nI 0), .ref n1, .ref n2, .ref n3, .ref n4, .ref n5, .ref n6, .ref n7, .ref n8, .ref n9, .ref n10])), (n1, .inl (T 0, 10, .inl (fun _ => nI 0))), (n2, .inl (T 0, 10, .inl (fun _ => nI 0))), (n3, .inl (T 0, 10, .inl (fun _ => nI 0))), (n4, .inl (T 0, 10, .inl (fun _ => nI 0))), (n5, .inl (T 0, 10, .inl (fun _ => nI 0))), (n6, .inl (T 0, 10, .inl (fun _ => nI 0))), (n7, .inl (T 0, 10, .inl (fun _ => nI 0))), (n8, .inl (T 0, 10, .inl (fun _ => nI 0))), (n9, .inl (T 0, 10, .inl (fun _ => nI 0))), (n10, .inl (T 0, 10, .inl (fun _ => nI 0)))] H locs := V
    show W p l e _ s m args below meth c H locs _ _ _ (F0 m 7 ls [.int (-3)])
    refine lv_istore_n (lv' := [(3, .int (-3)), (0, .ref o), (1, .int seed), (2, .int n)]) hx hb dX7_day_7 rfl hl (by decide) rfl (fun ls hl => ?_)
    refine lv_iload_n hx hb dX7_day_8 rfl (lv_at hl 0 rfl) ?_
    refine lv_if_eq (tgt := 14) hx hb dX7_day_9 (by decide) (fun c => absurd (show (-3 : Int32) = 0 from c) (by decide +kernel)) (fun _ => ?_)
    refine lv_iload_n hx hb dX7_day_12 rfl (lv_at hl 0 rfl) ?_
    have V := V.sub (ws' := []) [] rfl rfl
    exact g_iret (Qr := (q_X7_day T o seed n n0 s0 im iz rw t0 u0 h0 y0 n1 n2 n3 n4 n5 n6 n7 n8 n9 n10)) hC V ⟨(Nat.le_of_ble_eq_true rfl), (Nat.le_of_ble_eq_true rfl)⟩ ⟨(-3), rfl, rfl, (by first | exact pf_day_1 ‹_› | exact pf_day_2 ‹_› ‹_›)⟩ dX7_day_13
  · have V : gW D T A s [(o, .inr (7, [.ref n0, .ref s0, .ref im, .ref iz, .ref rw, .ref t0, .ref u0, .ref h0, .ref y0, .null])), (n0, .inr (5, [.int (nI 0), .int (nI 0), .int (nI 0), .int (nI 20), .int (nI 0), .ref n1, .ref n2, .ref n3, .ref n4, .ref n5, .ref n6, .ref n7, .ref n8, .ref n9, .ref n10])), (n1, .inl (T 0, 10, .inl (fun _ => nI 0))), (n2, .inl (T 0, 10, .inl (fun _ => nI 0))), (n3, .inl (T 0, 10, .inl (fun _ => nI 0))), (n4, .inl (T 0, 10, .inl (fun _ => nI 0))), (n5, .inl (T 0, 10, .inl (fun _ => nI 0))), (n6, .inl (T 0, 10, .inl (fun _ => nI 0))), (n7, .inl (T 0, 10, .inl (fun _ => nI 0))), (n8, .inl (T 0, 10, .inl (fun _ => nI 0))), (n9, .inl (T 0, 10, .inl (fun _ => nI 0))), (n10, .inl (T 0, 10, .inl (fun _ => nI 0)))] H locs := V
    show W p l e _ s m args below meth c H locs _ _ _ (F0 m 7 ls [.int (nI 0)])
    rw [f_6] at hl
    refine lv_istore_n (lv' := [(3, .int (nI 0)), (0, .ref o), (1, .int seed), (2, .int (nI jj))]) hx hb dX7_day_7 rfl hl (by decide) rfl (fun ls hl => ?_)
    refine lv_iload_n hx hb dX7_day_8 rfl (lv_at hl 0 rfl) ?_
    refine lv_if_eq (tgt := 14) hx hb dX7_day_9 (by decide) (fun _ => ?_) (fun c => absurd (show (nI 0) = 0 by decide +kernel) c)
    refine lv_iload_n hx hb dX7_day_14 rfl (lv_at hl 2 rfl) ?_
    refine lv_istore (lv' := [(4, .int seed), (3, .int (nI 0)), (0, .ref o), (1, .int seed), (2, .int (nI jj))]) hx hb dX7_day_15 hl (by decide) rfl (fun ls hl => ?_)
    refine lv_iconst (v := (nI 0)) hx hb dX7_day_17 (by decide +kernel) ?_
    refine lv_istore (lv' := [(5, .int (nI 0)), (4, .int seed), (3, .int (nI 0)), (0, .ref o), (1, .int seed), (2, .int (nI jj))]) hx hb dX7_day_18 hl (by decide) rfl (fun ls hl => ?_)
    refine lv_iconst (v := (nI 0)) hx hb dX7_day_20 (by decide +kernel) ?_
    refine lv_istore (lv' := [(6, .int (nI 0)), (5, .int (nI 0)), (4, .int seed), (3, .int (nI 0)), (0, .ref o), (1, .int seed), (2, .int (nI jj))]) hx hb dX7_day_21 hl (by decide) rfl (fun ls hl => ?_)
    have L_7 : ∀ (fu : Nat) (k : Nat) (mm : Nat), k ≤ jj → jj - k < fu → ∀ (H : Heap) (locs : List Loc) (ls : Array Slot), gW D T A s [(o, .inr (7, [.ref n0, .ref s0, .ref im, .ref iz, .ref rw, .ref t0, .ref u0, .ref h0, .ref y0, .null])), (n0, .inr (5, [.int (nI 0), .int (nI mm), .int (nI 0), .int (nI 20), .int (nI 0), .ref n1, .ref n2, .ref n3, .ref n4, .ref n5, .ref n6, .ref n7, .ref n8, .ref n9, .ref n10])), (n1, .inl (T 0, 10, .inl (fun _ => nI 0))), (n2, .inl (T 0, 10, .inl (fun _ => nI 0))), (n3, .inl (T 0, 10, .inl (fun _ => nI 0))), (n4, .inl (T 0, 10, .inl (fun _ => nI 0))), (n5, .inl (T 0, 10, .inl (fun _ => nI 0))), (n6, .inl (T 0, 10, .inl (fun _ => nI 0))), (n7, .inl (T 0, 10, .inl (fun _ => nI 0))), (n8, .inl (T 0, 10, .inl (fun _ => nI 0))), (n9, .inl (T 0, 10, .inl (fun _ => nI 0))), (n10, .inl (T 0, 10, .inl (fun _ => nI 0)))] H locs → lv_has ls 11 [(6, .int (nI k)), (5, .int (nI 0)), (4, .int seed), (3, .int (nI 0)), (0, .ref o), (1, .int seed), (2, .int (nI jj))] → W p l e (rmD 2 0 0) s m args below meth c H locs 0 0 (MQ below (gQ D A (q_X7_day T o seed n n0 s0 im iz rw t0 u0 h0 y0 n1 n2 n3 n4 n5 n6 n7 n8 n9 n10)) args s 0 0 A) (F0 m 23 ls []) := by
      intro fu
      induction fu with
      | zero => intro k mm hk hmu; exact absurd hmu (Nat.not_lt_zero _)
      | succ fu ih =>
        intro k mm hk hmu H locs ls V hl
        refine lv_iload hx hb dX7_day_23 (lv_at hl 0 rfl) ?_
        refine lv_iload_n hx hb dX7_day_25 rfl (lv_at hl 6 rfl) ?_
        refine lv_icmp_ge (tgt := 138) hx hb dX7_day_26 (by decide) (fun c_8 => ?_) (fun c_8 => ?_)
        · skip
          have c_8 := b_le (by omega) (by omega) c_8
          refine lv_iload hx hb dX7_day_138 (lv_at hl 1 rfl) ?_
          have V := V.sub (ws' := []) [] rfl rfl
          exact g_iret (Qr := (q_X7_day T o seed n n0 s0 im iz rw t0 u0 h0 y0 n1 n2 n3 n4 n5 n6 n7 n8 n9 n10)) hC V ⟨(Nat.le_of_ble_eq_true rfl), (Nat.le_of_ble_eq_true rfl)⟩ ⟨(nI 0), rfl, rfl, (by first | exact pf_day_1 ‹_› | exact pf_day_2 ‹_› ‹_›)⟩ dX7_day_140
        · skip
          have c_8 := b_nle (by omega) (by omega) c_8
          refine lv_iconst (v := (nI 0)) hx hb dX7_day_29 (by decide +kernel) ?_
          refine lv_istore (lv' := [(7, .int (nI 0)), (6, .int (nI k)), (5, .int (nI 0)), (4, .int seed), (3, .int (nI 0)), (0, .ref o), (1, .int seed), (2, .int (nI jj))]) hx hb dX7_day_30 hl (by decide) rfl (fun ls hl => ?_)
          refine lv_iconst (v := (nI 0)) hx hb dX7_day_32 (by decide +kernel) ?_
          refine lv_istore (lv' := [(8, .int (nI 0)), (7, .int (nI 0)), (6, .int (nI k)), (5, .int (nI 0)), (4, .int seed), (3, .int (nI 0)), (0, .ref o), (1, .int seed), (2, .int (nI jj))]) hx hb dX7_day_33 hl (by decide) rfl (fun ls hl => ?_)
          refine lv_iconst (v := (nI 0)) hx hb dX7_day_35 (by decide +kernel) ?_
          refine lv_istore (lv' := [(9, .int (nI 0)), (8, .int (nI 0)), (7, .int (nI 0)), (6, .int (nI k)), (5, .int (nI 0)), (4, .int seed), (3, .int (nI 0)), (0, .ref o), (1, .int seed), (2, .int (nI jj))]) hx hb dX7_day_36 hl (by decide) rfl (fun ls hl => ?_)
          refine lv_iload hx hb dX7_day_38 (lv_at hl 0 rfl) ?_
          refine lv_aload_n hx hb dX7_day_40 rfl (lv_at hl 7 rfl) ?_
          refine g_get hC V (ci := 7) uwX7 0 rfl rfl 0 (by decide) w_249 rfl rfl dX7_day_41 ?_
          refine g_get hC V (ci := 5) uwX5 1 rfl rfl 0 (by decide) w_38 rfl rfl dX7_day_44 ?_
          refine lv_icmp_ge (tgt := 114) hx hb dX7_day_47 (by decide) (fun _ => ?_) (fun c => absurd (show (nI 0) ≤ (nI 0) by first | rfl | decide +kernel) c)
          refine lv_iload hx hb dX7_day_114 (lv_at hl 4 rfl) ?_
          refine lv_aload_n hx hb dX7_day_116 rfl (lv_at hl 7 rfl) ?_
          refine g_get hC V (ci := 7) uwX7 0 rfl rfl 0 (by decide) w_249 rfl rfl dX7_day_117 ?_
          refine lv_iload hx hb dX7_day_120 (lv_at hl 2 rfl) ?_
          refine lv_iload hx hb dX7_day_122 (lv_at hl 1 rfl) ?_
          refine lv_iconst (v := (-1)) hx hb dX7_day_124 (by decide +kernel) ?_
          refine lv_iconst (v := (nI 0)) hx hb dX7_day_125 (by decide +kernel) ?_
          refine g_callV (wr := [(o, .inr (7, [.ref n0, .ref s0, .ref im, .ref iz, .ref rw, .ref t0, .ref u0, .ref h0, .ref y0, .null])), (n1, .inl (T 0, 10, .inl (fun _ => nI 0))), (n2, .inl (T 0, 10, .inl (fun _ => nI 0))), (n3, .inl (T 0, 10, .inl (fun _ => nI 0))), (n4, .inl (T 0, 10, .inl (fun _ => nI 0))), (n5, .inl (T 0, 10, .inl (fun _ => nI 0))), (n6, .inl (T 0, 10, .inl (fun _ => nI 0))), (n7, .inl (T 0, 10, .inl (fun _ => nI 0))), (n8, .inl (T 0, 10, .inl (fun _ => nI 0))), (n9, .inl (T 0, 10, .inl (fun _ => nI 0))), (n10, .inl (T 0, 10, .inl (fun _ => nI 0)))]) (nA := 4) hC V hl.1 (c_pass l D T n0 (nI 0) (nI 0) (-1) (nI 0) mm n1 n2 n3 n4 n5 n6 n7 n8 n9 n10) w_466 w_467 w_468 w_3 w_469 (by decide +kernel) rfl ⟨(Nat.le_of_ble_eq_true rfl), (Nat.le_of_ble_eq_true rfl)⟩ 1 (ci := 5) rfl rfl [1] [0, 2, 3, 4, 5, 6, 7, 8, 9, 10, 11] rfl rfl rfl rfl (by decide) (Nat.le_of_ble_eq_true rfl) dX7_day_126 ⟨(Nat.le_of_ble_eq_true rfl), (Nat.le_of_ble_eq_true rfl)⟩ rfl (fun r w1 H locs hQ V => ?_)
          obtain ⟨rfl, rfl⟩ := hQ
          have V : gW D T A s [(o, .inr (7, [.ref n0, .ref s0, .ref im, .ref iz, .ref rw, .ref t0, .ref u0, .ref h0, .ref y0, .null])), (n1, .inl (T 0, 10, .inl (fun _ => nI 0))), (n2, .inl (T 0, 10, .inl (fun _ => nI 0))), (n3, .inl (T 0, 10, .inl (fun _ => nI 0))), (n4, .inl (T 0, 10, .inl (fun _ => nI 0))), (n5, .inl (T 0, 10, .inl (fun _ => nI 0))), (n6, .inl (T 0, 10, .inl (fun _ => nI 0))), (n7, .inl (T 0, 10, .inl (fun _ => nI 0))), (n8, .inl (T 0, 10, .inl (fun _ => nI 0))), (n9, .inl (T 0, 10, .inl (fun _ => nI 0))), (n10, .inl (T 0, 10, .inl (fun _ => nI 0))), (n0, .inr (5, [.int (nI 0), .int (nI (mm + 1)), .int (nI 0), .int (nI 20), .int (nI 0), .ref n1, .ref n2, .ref n3, .ref n4, .ref n5, .ref n6, .ref n7, .ref n8, .ref n9, .ref n10]))] H locs := V
          show W p l e _ s m args below meth c H locs _ _ _ (F0 m 129 ls [.int (nI 0), .int (nI 0)])
          refine lv_iadd hx hb dX7_day_129 ?_
          refine g_vi (y := (nI 0)) (by decide +kernel) ?_
          refine lv_istore (lv' := [(5, .int (nI 0)), (9, .int (nI 0)), (8, .int (nI 0)), (7, .int (nI 0)), (6, .int (nI k)), (4, .int seed), (3, .int (nI 0)), (0, .ref o), (1, .int seed), (2, .int (nI jj))]) hx hb dX7_day_130 hl (by decide) rfl (fun ls hl => ?_)
          refine lv_iinc (v := (nI (k + 1))) (lv' := [(6, .int (nI (k + 1))), (5, .int (nI 0)), (9, .int (nI 0)), (8, .int (nI 0)), (7, .int (nI 0)), (4, .int seed), (3, .int (nI 0)), (0, .ref o), (1, .int seed), (2, .int (nI jj))]) hx hb dX7_day_132 hl (k := 4) rfl (nI_1 _) (by decide) rfl (fun ls hl => ?_)
          refine lv_goto (tgt := 23) hx hb dX7_day_135 (by decide) ?_
          exact ih (k + 1) (mm + 1) (by omega) (by omega) _ _ _ (V.sub [0, 11, 1, 2, 3, 4, 5, 6, 7, 8, 9, 10] rfl rfl) (lv_sub hl [0, 1, 5, 6, 7, 8, 9] rfl)
    exact L_7 _ 0 0 (Nat.zero_le _) (Nat.lt_succ_self _) _ _ _ V (lv_sub hl [0, 1, 2, 3, 4, 5, 6] rfl)

def q_floorMod (T : Nat → ClassId) (x : Int32) (y : Int32) : Option Value → va_W → Prop := fun rr ww => (∃ (z : Int32), rr = some (.int z) ∧ ww = [])
set_option maxHeartbeats 4000000 in
set_option maxRecDepth 100000 in
theorem c_floorMod (l : Launch) (D : va_G) (T : Nat → ClassId) (x : Int32) (y : Int32) (h_y : ¬ y = 0) : Ct l yJ9_floorMod_7cf53 cJ9_floorMod_7cf53 3 (some .int) 0 0 0 D T [.int x, .int y] [] (q_floorMod T x y) := by
  refine Ct.ofF (cc := cJ9_floorMod_7cf53) (maxL := 3) (ret := (some .int)) (by decide +kernel) (Nat.le_of_ble_eq_true rfl) ?_
  intro p e s m args below meth c A ls hC hnm V hl
  obtain ⟨hx, hb, hr, hml, hown, hts, hlocks⟩ := id hC
  generalize hH : s.heap = H at V ⊢
  clear hH
  have hl : lv_has ls 3 [(0, .int x), (1, .int y)] := hl
  generalize hlo : ([] : List Loc) = locs at V ⊢
  clear hlo
  refine lv_iload_n hx hb dJ9_floorMod_7cf53_0 rfl (lv_at hl 0 rfl) ?_
  refine lv_iload_n hx hb dJ9_floorMod_7cf53_1 rfl (lv_at hl 1 rfl) ?_
  refine lv_irem hx hb dJ9_floorMod_7cf53_2 h_y ?_
  refine lv_istore_n (lv' := [(2, .int (x - x / y * y)), (0, .int x), (1, .int y)]) hx hb dJ9_floorMod_7cf53_3 rfl hl (by decide) rfl (fun ls hl => ?_)
  refine lv_iload_n hx hb dJ9_floorMod_7cf53_4 rfl (lv_at hl 1 rfl) ?_
  refine lv_iload_n hx hb dJ9_floorMod_7cf53_5 rfl (lv_at hl 2 rfl) ?_
  refine lv_ixor hx hb dJ9_floorMod_7cf53_6 ?_
  refine lv_if_ge (tgt := 18) hx hb dJ9_floorMod_7cf53_7 (by decide) (fun c_1 => ?_) (fun c_1 => ?_)
  · skip
    refine lv_iload_n hx hb dJ9_floorMod_7cf53_18 rfl (lv_at hl 0 rfl) ?_
    exact g_iret (Qr := (q_floorMod T x y)) hC V ⟨(Nat.le_of_ble_eq_true rfl), (Nat.le_of_ble_eq_true rfl)⟩ ⟨(x - x / y * y), rfl, rfl⟩ dJ9_floorMod_7cf53_19
  · skip
    refine lv_iload_n hx hb dJ9_floorMod_7cf53_10 rfl (lv_at hl 0 rfl) ?_
    refine lv_if_eq (tgt := 18) hx hb dJ9_floorMod_7cf53_11 (by decide) (fun c_2 => ?_) (fun c_2 => ?_)
    · skip
      refine lv_iload_n hx hb dJ9_floorMod_7cf53_18 rfl (lv_at hl 0 rfl) ?_
      exact g_iret (Qr := (q_floorMod T x y)) hC V ⟨(Nat.le_of_ble_eq_true rfl), (Nat.le_of_ble_eq_true rfl)⟩ ⟨(x - x / y * y), rfl, rfl⟩ dJ9_floorMod_7cf53_19
    · skip
      refine lv_iload_n hx hb dJ9_floorMod_7cf53_14 rfl (lv_at hl 0 rfl) ?_
      refine lv_iload_n hx hb dJ9_floorMod_7cf53_15 rfl (lv_at hl 2 rfl) ?_
      refine lv_iadd hx hb dJ9_floorMod_7cf53_16 ?_
      exact g_iret (Qr := (q_floorMod T x y)) hC V ⟨(Nat.le_of_ble_eq_true rfl), (Nat.le_of_ble_eq_true rfl)⟩ ⟨((x - x / y * y) + y), rfl, rfl⟩ dJ9_floorMod_7cf53_17

def q_takeWave (T : Nat → ClassId) (h0 : Nat) (le : Nat) (step : Int32) (h1 : Nat) (bb : Int32) (bw : Int32) (ln : Int32) (h2 : Nat) (h3 : Nat) (f0 : Nat → Int32) : Option Value → va_W → Prop := fun rr ww => (∃ (g : Nat → Int32), rr = none ∧ ww = [(h0, .inr (3, [.ref h1, .int bb, .int bw, .int (nI le), .ref h2, .ref h3])), (h2, .inl (T 0, 10, .inl g))])
set_option maxHeartbeats 4000000 in
set_option maxRecDepth 100000 in
theorem c_takeWave (l : Launch) (D : va_G) (T : Nat → ClassId) (h0 : Nat) (le : Nat) (step : Int32) (h1 : Nat) (bb : Int32) (bw : Int32) (ln : Int32) (h2 : Nat) (h3 : Nat) (f0 : Nat → Int32) (h_l : 1 ≤ le ∧ le ≤ 12) : Ct l yX3_takeWave cX3_takeWave 4 none 1 0 0 D T [.ref h0, .int (nI le), .int step] [(h0, .inr (3, [.ref h1, .int bb, .int bw, .int ln, .ref h2, .ref h3])), (h2, .inl (T 0, 10, .inl f0))] (q_takeWave T h0 le step h1 bb bw ln h2 h3 f0) := by
  refine Ct.of (cc := cX3_takeWave) (maxL := 4) (ret := none) (by decide) (Nat.le_of_ble_eq_true rfl) ?_
  intro p e s m args below meth c A ls hC hnm V hl
  obtain ⟨hx, hb, hr, hml, hown, hts, hlocks⟩ := id hC
  generalize hH : s.heap = H at V ⊢
  clear hH
  have hl : lv_has ls 4 [(0, .ref h0), (1, .int (nI le)), (2, .int step)] := hl
  generalize hlo : ([] : List Loc) = locs at V ⊢
  clear hlo
  refine lv_aload_n hx hb dX3_takeWave_0 rfl (lv_at hl 0 rfl) ?_
  refine lv_iload_n hx hb dX3_takeWave_1 rfl (lv_at hl 1 rfl) ?_
  refine g_put hC V (ci := 3) uwX3 tyX3 tyX3_ok nmX3 0 rfl rfl 3 (by decide) w_189 rfl rfl rfl rfl (Nat.le_of_ble_eq_true rfl) (ws' := [(h0, .inr (3, [.ref h1, .int bb, .int bw, .int (nI le), .ref h2, .ref h3])), (h2, .inl (T 0, 10, .inl f0))]) rfl dX3_takeWave_2 (fun H locs V => ?_)
  refine lv_iconst (v := (nI 0)) hx hb dX3_takeWave_5 (by decide +kernel) ?_
  refine lv_istore_n (lv' := [(3, .int (nI 0)), (0, .ref h0), (1, .int (nI le)), (2, .int step)]) hx hb dX3_takeWave_6 rfl hl (by decide) rfl (fun ls hl => ?_)
  have L_1 : ∀ (fu : Nat) (k : Nat) (f : Nat → Int32), k ≤ 10 → 10 - k < fu → ∀ (H : Heap) (locs : List Loc) (ls : Array Slot), gW D T A s [(h0, .inr (3, [.ref h1, .int bb, .int bw, .int (nI le), .ref h2, .ref h3])), (h2, .inl (T 0, 10, .inl f))] H locs → lv_has ls 4 [(3, .int (nI k)), (0, .ref h0), (1, .int (nI le)), (2, .int step)] → W p l e (rmD 1 0 0) s m args below meth c H locs 0 0 (MQ below (gQ D A (q_takeWave T h0 le step h1 bb bw ln h2 h3 f0)) args s 0 0 A) (F0 m 7 ls []) := by
    intro fu
    induction fu with
    | zero => intro k f hk hmu; exact absurd hmu (Nat.not_lt_zero _)
    | succ fu ih =>
      intro k f hk hmu H locs ls V hl
      refine lv_iload_n hx hb dX3_takeWave_7 rfl (lv_at hl 0 rfl) ?_
      refine lv_bipush (v := (nI 10)) hx hb dX3_takeWave_8 (by decide +kernel) ?_
      refine lv_icmp_ge (tgt := 37) hx hb dX3_takeWave_10 (by decide) (fun c_2 => ?_) (fun c_2 => ?_)
      · skip
        have c_2 := b_le (by omega) (by omega) c_2
        exact g_vret (Qr := (q_takeWave T h0 le step h1 bb bw ln h2 h3 f0)) hC V ⟨(Nat.le_of_ble_eq_true rfl), (Nat.le_of_ble_eq_true rfl)⟩ ⟨f, rfl, rfl⟩ dX3_takeWave_37
      · skip
        have c_2 := b_nle (by omega) (by omega) c_2
        refine lv_aload_n hx hb dX3_takeWave_13 rfl (lv_at hl 1 rfl) ?_
        refine g_get hC V (ci := 3) uwX3 0 rfl rfl 4 (by decide) w_190 rfl rfl dX3_takeWave_14 ?_
        refine lv_iload_n hx hb dX3_takeWave_17 rfl (lv_at hl 0 rfl) ?_
        refine lv_iconst (v := (nI 1)) hx hb dX3_takeWave_18 (by decide +kernel) ?_
        refine lv_iload_n hx hb dX3_takeWave_19 rfl (lv_at hl 0 rfl) ?_
        refine lv_iload_n hx hb dX3_takeWave_20 rfl (lv_at hl 3 rfl) ?_
        refine lv_imul hx hb dX3_takeWave_21 ?_
        refine lv_aload_n hx hb dX3_takeWave_22 rfl (lv_at hl 1 rfl) ?_
        refine g_get hC V (ci := 3) uwX3 0 rfl rfl 3 (by decide) w_189 rfl rfl dX3_takeWave_23 ?_
        refine g_callS (wr := [(h0, .inr (3, [.ref h1, .int bb, .int bw, .int (nI le), .ref h2, .ref h3])), (h2, .inl (T 0, 10, .inl f))]) (nA := 2) hC V hl.1 (c_floorMod l D T ((nI k) * step) (nI le) (nI_ne0 (by omega) (by omega))) w_645 w_646 w_10 w_647 (by decide +kernel) rfl ⟨(Nat.le_of_ble_eq_true rfl), (Nat.le_of_ble_eq_true rfl)⟩ [] [0, 1] rfl rfl rfl rfl (by decide) (Nat.le_of_ble_eq_true rfl) dX3_takeWave_26 ⟨(Nat.le_of_ble_eq_true rfl), (Nat.le_of_ble_eq_true rfl)⟩ rfl (fun r w1 H locs hQ V => ?_)
        obtain ⟨z_3, rfl, rfl⟩ := hQ
        have V : gW D T A s [(h0, .inr (3, [.ref h1, .int bb, .int bw, .int (nI le), .ref h2, .ref h3])), (h2, .inl (T 0, 10, .inl f))] H locs := V
        show W p l e _ s m args below meth c H locs _ _ _ (F0 m 29 ls [.int z_3, .int (nI 1), .int (nI k), .ref h2])
        refine lv_ishl hx hb dX3_takeWave_29 ?_
        refine g_iast hC V 1 rfl (vp_in_nI (by omega) (by omega)) (f' := (upd f k ((nI 1) <<< (z_3 &&& 31)))) (by rw [nI_clamp (by omega)]) (ws' := [(h0, .inr (3, [.ref h1, .int bb, .int bw, .int (nI le), .ref h2, .ref h3])), (h2, .inl (T 0, 10, .inl (upd f k ((nI 1) <<< (z_3 &&& 31)))))]) rfl dX3_takeWave_30 (fun H locs V => ?_)
        refine lv_iinc (v := (nI (k + 1))) (lv' := [(3, .int (nI (k + 1))), (0, .ref h0), (1, .int (nI le)), (2, .int step)]) hx hb dX3_takeWave_31 hl (k := 0) rfl (nI_1 _) (by decide) rfl (fun ls hl => ?_)
        refine lv_goto (tgt := 7) hx hb dX3_takeWave_34 (by decide) ?_
        exact ih (k + 1) (upd f k ((nI 1) <<< (z_3 &&& 31))) (by omega) (by omega) _ _ _ V (lv_sub hl [0, 1, 2, 3] rfl)
  exact L_1 _ 0 f0 (Nat.zero_le _) (Nat.lt_succ_self _) _ _ _ V (lv_sub hl [0, 1, 2, 3] rfl)

def q_judgeOn (T : Nat → ClassId) (h0 : Nat) (n0 : Nat) (h1 : Nat) (bb : Int32) (bw : Int32) (ln : Int32) (h2 : Nat) (h3 : Nat) (n1 : Nat) (n2 : Nat) (n3 : Nat) (n4 : Nat) (n5 : Nat) (n6 : Nat) (n7 : Nat) (n8 : Nat) (n9 : Nat) (n10 : Nat) : Option Value → va_W → Prop := fun rr ww => (rr = none ∧ ww = [(h0, .inr (3, [.ref h1, .int (-1), .int (-1), .int ln, .ref h2, .ref h3])), (n0, .inr (5, [.int (nI 0), .int (nI 0), .int (nI 0), .int (nI 20), .int (nI 0), .ref n1, .ref n2, .ref n3, .ref n4, .ref n5, .ref n6, .ref n7, .ref n8, .ref n9, .ref n10]))])
set_option maxHeartbeats 4000000 in
set_option maxRecDepth 100000 in
theorem c_judgeOn (l : Launch) (D : va_G) (T : Nat → ClassId) (h0 : Nat) (n0 : Nat) (h1 : Nat) (bb : Int32) (bw : Int32) (ln : Int32) (h2 : Nat) (h3 : Nat) (n1 : Nat) (n2 : Nat) (n3 : Nat) (n4 : Nat) (n5 : Nat) (n6 : Nat) (n7 : Nat) (n8 : Nat) (n9 : Nat) (n10 : Nat) : Ct l yX3_judgeOn cX3_judgeOn 4 none 0 0 0 D T [.ref h0, .ref n0] [(h0, .inr (3, [.ref h1, .int bb, .int bw, .int ln, .ref h2, .ref h3])), (n0, .inr (5, [.int (nI 0), .int (nI 0), .int (nI 0), .int (nI 20), .int (nI 0), .ref n1, .ref n2, .ref n3, .ref n4, .ref n5, .ref n6, .ref n7, .ref n8, .ref n9, .ref n10]))] (q_judgeOn T h0 n0 h1 bb bw ln h2 h3 n1 n2 n3 n4 n5 n6 n7 n8 n9 n10) := by
  refine Ct.of (cc := cX3_judgeOn) (maxL := 4) (ret := none) (by decide) (Nat.le_of_ble_eq_true rfl) ?_
  intro p e s m args below meth c A ls hC hnm V hl
  obtain ⟨hx, hb, hr, hml, hown, hts, hlocks⟩ := id hC
  generalize hH : s.heap = H at V ⊢
  clear hH
  have hl : lv_has ls 4 [(0, .ref h0), (1, .ref n0)] := hl
  generalize hlo : ([] : List Loc) = locs at V ⊢
  clear hlo
  refine lv_aload_n hx hb dX3_judgeOn_0 rfl (lv_at hl 0 rfl) ?_
  refine lv_iconst (v := (-1)) hx hb dX3_judgeOn_1 (by decide +kernel) ?_
  refine g_put hC V (ci := 3) uwX3 tyX3 tyX3_ok nmX3 0 rfl rfl 1 (by decide) w_185 rfl rfl rfl rfl (Nat.le_of_ble_eq_true rfl) (ws' := [(h0, .inr (3, [.ref h1, .int (-1), .int bw, .int ln, .ref h2, .ref h3])), (n0, .inr (5, [.int (nI 0), .int (nI 0), .int (nI 0), .int (nI 20), .int (nI 0), .ref n1, .ref n2, .ref n3, .ref n4, .ref n5, .ref n6, .ref n7, .ref n8, .ref n9, .ref n10]))]) rfl dX3_judgeOn_2 (fun H locs V => ?_)
  refine lv_aload_n hx hb dX3_judgeOn_5 rfl (lv_at hl 0 rfl) ?_
  refine lv_iconst (v := (-1)) hx hb dX3_judgeOn_6 (by decide +kernel) ?_
  refine g_put hC V (ci := 3) uwX3 tyX3 tyX3_ok nmX3 0 rfl rfl 2 (by decide) w_187 rfl rfl rfl rfl (Nat.le_of_ble_eq_true rfl) (ws' := [(h0, .inr (3, [.ref h1, .int (-1), .int (-1), .int ln, .ref h2, .ref h3])), (n0, .inr (5, [.int (nI 0), .int (nI 0), .int (nI 0), .int (nI 20), .int (nI 0), .ref n1, .ref n2, .ref n3, .ref n4, .ref n5, .ref n6, .ref n7, .ref n8, .ref n9, .ref n10]))]) rfl dX3_judgeOn_7 (fun H locs V => ?_)
  refine lv_iconst (v := (nI 0)) hx hb dX3_judgeOn_10 (by decide +kernel) ?_
  refine lv_istore_n (lv' := [(2, .int (nI 0)), (0, .ref h0), (1, .ref n0)]) hx hb dX3_judgeOn_11 rfl hl (by decide) rfl (fun ls hl => ?_)
  refine lv_iload_n hx hb dX3_judgeOn_12 rfl (lv_at hl 0 rfl) ?_
  refine lv_aload_n hx hb dX3_judgeOn_13 rfl (lv_at hl 2 rfl) ?_
  refine g_get hC V (ci := 5) uwX5 1 rfl rfl 0 (by decide) w_37 rfl rfl dX3_judgeOn_14 ?_
  refine lv_icmp_ge (tgt := 64) hx hb dX3_judgeOn_17 (by decide) (fun _ => ?_) (fun c => absurd (show (nI 0) ≤ (nI 0) by first | rfl | decide +kernel) c)
  exact g_vret (Qr := (q_judgeOn T h0 n0 h1 bb bw ln h2 h3 n1 n2 n3 n4 n5 n6 n7 n8 n9 n10)) hC V ⟨(Nat.le_of_ble_eq_true rfl), (Nat.le_of_ble_eq_true rfl)⟩ ⟨rfl, rfl⟩ dX3_judgeOn_64

def q_waveBreaks (T : Nat → ClassId) (o : Nat) (le : Nat) (step : Int32) (n0 : Nat) (s0 : Nat) (im : Nat) (iz : Nat) (rw : Nat) (t0 : Nat) (u0 : Nat) (h0 : Nat) (y0 : Nat) (n1 : Nat) (n2 : Nat) (n3 : Nat) (n4 : Nat) (n5 : Nat) (n6 : Nat) (n7 : Nat) (n8 : Nat) (n9 : Nat) (n10 : Nat) (h1 : Nat) (h2 : Nat) (h3 : Nat) : Option Value → va_W → Prop := fun rr ww => (∃ (g : Nat → Int32), rr = some (.int (-1)) ∧ ww = [(o, .inr (7, [.ref n0, .ref s0, .ref im, .ref iz, .ref rw, .ref t0, .ref u0, .ref h0, .ref y0, .null])), (n0, .inr (5, [.int (nI 0), .int (nI 0), .int (nI 0), .int (nI 20), .int (nI 0), .ref n1, .ref n2, .ref n3, .ref n4, .ref n5, .ref n6, .ref n7, .ref n8, .ref n9, .ref n10])), (h0, .inr (3, [.ref h1, .int (-1), .int (-1), .int (nI le), .ref h2, .ref h3])), (h2, .inl (T 0, 10, .inl g))])
set_option maxHeartbeats 4000000 in
set_option maxRecDepth 100000 in
theorem c_waveBreaks (l : Launch) (D : va_G) (T : Nat → ClassId) (o : Nat) (le : Nat) (step : Int32) (n0 : Nat) (s0 : Nat) (im : Nat) (iz : Nat) (rw : Nat) (t0 : Nat) (u0 : Nat) (h0 : Nat) (y0 : Nat) (n1 : Nat) (n2 : Nat) (n3 : Nat) (n4 : Nat) (n5 : Nat) (n6 : Nat) (n7 : Nat) (n8 : Nat) (n9 : Nat) (n10 : Nat) (h1 : Nat) (h2 : Nat) (h3 : Nat) (h_l : 1 ≤ le ∧ le ≤ 12) : Ct l yX7_waveBreaksBehind cX7_waveBreaksBehind 3 (some .int) 2 0 0 D T [.ref o, .int (nI le), .int step] [(o, .inr (7, [.ref n0, .ref s0, .ref im, .ref iz, .ref rw, .ref t0, .ref u0, .ref h0, .ref y0, .null])), (n0, .inr (5, [.int (nI 0), .int (nI 0), .int (nI 0), .int (nI 20), .int (nI 0), .ref n1, .ref n2, .ref n3, .ref n4, .ref n5, .ref n6, .ref n7, .ref n8, .ref n9, .ref n10])), (h0, .inr (3, [.ref h1, .int (nI 0), .int (nI 0), .int (nI 0), .ref h2, .ref h3])), (h2, .inl (T 0, 10, .inl (fun _ => nI 0)))] (q_waveBreaks T o le step n0 s0 im iz rw t0 u0 h0 y0 n1 n2 n3 n4 n5 n6 n7 n8 n9 n10 h1 h2 h3) := by
  refine Ct.of (cc := cX7_waveBreaksBehind) (maxL := 3) (ret := (some .int)) (by decide) (Nat.le_of_ble_eq_true rfl) ?_
  intro p e s m args below meth c A ls hC hnm V hl
  obtain ⟨hx, hb, hr, hml, hown, hts, hlocks⟩ := id hC
  generalize hH : s.heap = H at V ⊢
  clear hH
  have hl : lv_has ls 3 [(0, .ref o), (1, .int (nI le)), (2, .int step)] := hl
  generalize hlo : ([] : List Loc) = locs at V ⊢
  clear hlo
  refine lv_aload_n hx hb dX7_waveBreaksBehind_0 rfl (lv_at hl 0 rfl) ?_
  refine g_get hC V (ci := 7) uwX7 0 rfl rfl 7 (by decide) w_256 rfl rfl dX7_waveBreaksBehind_1 ?_
  refine lv_iload_n hx hb dX7_waveBreaksBehind_4 rfl (lv_at hl 1 rfl) ?_
  refine lv_iload_n hx hb dX7_waveBreaksBehind_5 rfl (lv_at hl 2 rfl) ?_
  refine g_callV (wr := [(o, .inr (7, [.ref n0, .ref s0, .ref im, .ref iz, .ref rw, .ref t0, .ref u0, .ref h0, .ref y0, .null])), (n0, .inr (5, [.int (nI 0), .int (nI 0), .int (nI 0), .int (nI 20), .int (nI 0), .ref n1, .ref n2, .ref n3, .ref n4, .ref n5, .ref n6, .ref n7, .ref n8, .ref n9, .ref n10]))]) (nA := 2) hC V hl.1 (c_takeWave l D T h0 le step h1 (nI 0) (nI 0) (nI 0) h2 h3 (fun _ => nI 0) (by first | assumption | omega | decide)) w_641 w_642 w_643 w_6 w_644 (by decide +kernel) rfl ⟨(Nat.le_of_ble_eq_true rfl), (Nat.le_of_ble_eq_true rfl)⟩ 2 (ci := 3) rfl rfl [2, 3] [0, 1] rfl rfl rfl rfl (by decide) (Nat.le_of_ble_eq_true rfl) dX7_waveBreaksBehind_6 ⟨(Nat.le_of_ble_eq_true rfl), (Nat.le_of_ble_eq_true rfl)⟩ rfl (fun r w1 H locs hQ V => ?_)
  obtain ⟨g_1, rfl, rfl⟩ := hQ
  have V : gW D T A s [(o, .inr (7, [.ref n0, .ref s0, .ref im, .ref iz, .ref rw, .ref t0, .ref u0, .ref h0, .ref y0, .null])), (n0, .inr (5, [.int (nI 0), .int (nI 0), .int (nI 0), .int (nI 20), .int (nI 0), .ref n1, .ref n2, .ref n3, .ref n4, .ref n5, .ref n6, .ref n7, .ref n8, .ref n9, .ref n10])), (h0, .inr (3, [.ref h1, .int (nI 0), .int (nI 0), .int (nI le), .ref h2, .ref h3])), (h2, .inl (T 0, 10, .inl g_1))] H locs := V
  show W p l e _ s m args below meth c H locs _ _ _ (F0 m 9 ls [])
  refine lv_aload_n hx hb dX7_waveBreaksBehind_9 rfl (lv_at hl 0 rfl) ?_
  refine g_get hC V (ci := 7) uwX7 0 rfl rfl 7 (by decide) w_256 rfl rfl dX7_waveBreaksBehind_10 ?_
  refine lv_aload_n hx hb dX7_waveBreaksBehind_13 rfl (lv_at hl 0 rfl) ?_
  refine g_get hC V (ci := 7) uwX7 0 rfl rfl 0 (by decide) w_249 rfl rfl dX7_waveBreaksBehind_14 ?_
  refine g_callV (wr := [(o, .inr (7, [.ref n0, .ref s0, .ref im, .ref iz, .ref rw, .ref t0, .ref u0, .ref h0, .ref y0, .null])), (h2, .inl (T 0, 10, .inl g_1))]) (nA := 1) hC V hl.1 (c_judgeOn l D T h0 n0 h1 (nI 0) (nI 0) (nI le) h2 h3 n1 n2 n3 n4 n5 n6 n7 n8 n9 n10) w_610 w_611 w_612 w_6 w_613 (by decide +kernel) rfl ⟨(Nat.le_of_ble_eq_true rfl), (Nat.le_of_ble_eq_true rfl)⟩ 2 (ci := 3) rfl rfl [2, 1] [0, 3] rfl rfl rfl rfl (by decide) (Nat.le_of_ble_eq_true rfl) dX7_waveBreaksBehind_17 ⟨(Nat.le_of_ble_eq_true rfl), (Nat.le_of_ble_eq_true rfl)⟩ rfl (fun r w1 H locs hQ V => ?_)
  obtain ⟨rfl, rfl⟩ := hQ
  have V : gW D T A s [(o, .inr (7, [.ref n0, .ref s0, .ref im, .ref iz, .ref rw, .ref t0, .ref u0, .ref h0, .ref y0, .null])), (h2, .inl (T 0, 10, .inl g_1)), (h0, .inr (3, [.ref h1, .int (-1), .int (-1), .int (nI le), .ref h2, .ref h3])), (n0, .inr (5, [.int (nI 0), .int (nI 0), .int (nI 0), .int (nI 20), .int (nI 0), .ref n1, .ref n2, .ref n3, .ref n4, .ref n5, .ref n6, .ref n7, .ref n8, .ref n9, .ref n10]))] H locs := V
  show W p l e _ s m args below meth c H locs _ _ _ (F0 m 20 ls [])
  refine lv_aload_n hx hb dX7_waveBreaksBehind_20 rfl (lv_at hl 0 rfl) ?_
  refine g_get hC V (ci := 7) uwX7 0 rfl rfl 7 (by decide) w_256 rfl rfl dX7_waveBreaksBehind_21 ?_
  refine g_get hC V (ci := 3) uwX3 2 rfl rfl 1 (by decide) w_186 rfl rfl dX7_waveBreaksBehind_24 ?_
  have V := V.sub (ws' := [(o, .inr (7, [.ref n0, .ref s0, .ref im, .ref iz, .ref rw, .ref t0, .ref u0, .ref h0, .ref y0, .null])), (n0, .inr (5, [.int (nI 0), .int (nI 0), .int (nI 0), .int (nI 20), .int (nI 0), .ref n1, .ref n2, .ref n3, .ref n4, .ref n5, .ref n6, .ref n7, .ref n8, .ref n9, .ref n10])), (h0, .inr (3, [.ref h1, .int (-1), .int (-1), .int (nI le), .ref h2, .ref h3])), (h2, .inl (T 0, 10, .inl g_1))]) [0, 3, 2, 1] rfl rfl
  exact g_iret (Qr := (q_waveBreaks T o le step n0 s0 im iz rw t0 u0 h0 y0 n1 n2 n3 n4 n5 n6 n7 n8 n9 n10 h1 h2 h3)) hC V ⟨(Nat.le_of_ble_eq_true rfl), (Nat.le_of_ble_eq_true rfl)⟩ ⟨g_1, rfl, rfl⟩ dX7_waveBreaksBehind_27

def q_X7_wave (T : Nat → ClassId) (o : Nat) (len : Int32) (step : Int32) (n0 : Nat) (s0 : Nat) (im : Nat) (iz : Nat) (rw : Nat) (t0 : Nat) (u0 : Nat) (h0 : Nat) (y0 : Nat) (n1 : Nat) (n2 : Nat) (n3 : Nat) (n4 : Nat) (n5 : Nat) (n6 : Nat) (n7 : Nat) (n8 : Nat) (n9 : Nat) (n10 : Nat) (h1 : Nat) (h2 : Nat) (h3 : Nat) : Option Value → va_W → Prop := fun rr ww => (∃ (z : Int32), rr = some (.int z) ∧ ww = [] ∧ z = pf_wave len step)
set_option maxHeartbeats 4000000 in
set_option maxRecDepth 100000 in
theorem p_X7_wave (l : Launch) (D : va_G) (T : Nat → ClassId) (o : Nat) (len : Int32) (step : Int32) (n0 : Nat) (s0 : Nat) (im : Nat) (iz : Nat) (rw : Nat) (t0 : Nat) (u0 : Nat) (h0 : Nat) (y0 : Nat) (n1 : Nat) (n2 : Nat) (n3 : Nat) (n4 : Nat) (n5 : Nat) (n6 : Nat) (n7 : Nat) (n8 : Nat) (n9 : Nat) (n10 : Nat) (h1 : Nat) (h2 : Nat) (h3 : Nat) : Ct l yX7_wave cX7_wave 3 (some .int) 3 0 0 D T [.ref o, .int len, .int step] [(o, .inr (7, [.ref n0, .ref s0, .ref im, .ref iz, .ref rw, .ref t0, .ref u0, .ref h0, .ref y0, .null])), (n0, .inr (5, [.int (nI 0), .int (nI 0), .int (nI 0), .int (nI 20), .int (nI 0), .ref n1, .ref n2, .ref n3, .ref n4, .ref n5, .ref n6, .ref n7, .ref n8, .ref n9, .ref n10])), (h0, .inr (3, [.ref h1, .int (nI 0), .int (nI 0), .int (nI 0), .ref h2, .ref h3])), (h2, .inl (T 0, 10, .inl (fun _ => nI 0)))] (q_X7_wave T o len step n0 s0 im iz rw t0 u0 h0 y0 n1 n2 n3 n4 n5 n6 n7 n8 n9 n10 h1 h2 h3) := by
  refine Ct.of (cc := cX7_wave) (maxL := 3) (ret := (some .int)) (by decide) (Nat.le_of_ble_eq_true rfl) ?_
  intro p e s m args below meth c A ls hC hnm V hl
  obtain ⟨hx, hb, hr, hml, hown, hts, hlocks⟩ := id hC
  generalize hH : s.heap = H at V ⊢
  clear hH
  have hl : lv_has ls 3 [(0, .ref o), (1, .int len), (2, .int step)] := hl
  generalize hlo : ([] : List Loc) = locs at V ⊢
  clear hlo
  refine lv_iload_n hx hb dX7_wave_0 rfl (lv_at hl 1 rfl) ?_
  refine lv_iconst (v := (nI 1)) hx hb dX7_wave_1 (by decide +kernel) ?_
  refine lv_bipush (v := (nI 12)) hx hb dX7_wave_2 (by decide +kernel) ?_
  refine g_callS (wr := [(o, .inr (7, [.ref n0, .ref s0, .ref im, .ref iz, .ref rw, .ref t0, .ref u0, .ref h0, .ref y0, .null])), (n0, .inr (5, [.int (nI 0), .int (nI 0), .int (nI 0), .int (nI 20), .int (nI 0), .ref n1, .ref n2, .ref n3, .ref n4, .ref n5, .ref n6, .ref n7, .ref n8, .ref n9, .ref n10])), (h0, .inr (3, [.ref h1, .int (nI 0), .int (nI 0), .int (nI 0), .ref h2, .ref h3])), (h2, .inl (T 0, 10, .inl (fun _ => nI 0)))]) (nA := 3) hC V hl.1 (c_isWithin l D T len (nI 1) (nI 12)) w_292 w_293 w_2 w_294 (by decide +kernel) rfl ⟨(Nat.le_of_ble_eq_true rfl), (Nat.le_of_ble_eq_true rfl)⟩ [] [0, 1, 2, 3] rfl rfl rfl rfl (by decide) (Nat.le_of_ble_eq_true rfl) dX7_wave_4 ⟨(Nat.le_of_ble_eq_true rfl), (Nat.le_of_ble_eq_true rfl)⟩ rfl (fun r w1 H locs hQ V => ?_)
  rcases hQ with ⟨rfl, rfl, f_1, f_2⟩ | ⟨rfl, rfl, f_3⟩
  · have V : gW D T A s [(o, .inr (7, [.ref n0, .ref s0, .ref im, .ref iz, .ref rw, .ref t0, .ref u0, .ref h0, .ref y0, .null])), (n0, .inr (5, [.int (nI 0), .int (nI 0), .int (nI 0), .int (nI 20), .int (nI 0), .ref n1, .ref n2, .ref n3, .ref n4, .ref n5, .ref n6, .ref n7, .ref n8, .ref n9, .ref n10])), (h0, .inr (3, [.ref h1, .int (nI 0), .int (nI 0), .int (nI 0), .ref h2, .ref h3])), (h2, .inl (T 0, 10, .inl (fun _ => nI 0)))] H locs := V
    show W p l e _ s m args below meth c H locs _ _ _ (F0 m 7 ls [.int (nI 1)])
    refine lv_if_eq (tgt := 21) hx hb dX7_wave_7 (by decide) (fun c => absurd (show (nI 1) = 0 from c) (by decide +kernel)) (fun _ => ?_)
    refine lv_iload_n hx hb dX7_wave_10 rfl (lv_at hl 2 rfl) ?_
    refine lv_iconst (v := (nI 0)) hx hb dX7_wave_11 (by decide +kernel) ?_
    refine lv_iload_n hx hb dX7_wave_12 rfl (lv_at hl 1 rfl) ?_
    refine lv_iconst (v := (nI 1)) hx hb dX7_wave_13 (by decide +kernel) ?_
    refine lv_isub hx hb dX7_wave_14 ?_
    refine g_callS (wr := [(o, .inr (7, [.ref n0, .ref s0, .ref im, .ref iz, .ref rw, .ref t0, .ref u0, .ref h0, .ref y0, .null])), (n0, .inr (5, [.int (nI 0), .int (nI 0), .int (nI 0), .int (nI 20), .int (nI 0), .ref n1, .ref n2, .ref n3, .ref n4, .ref n5, .ref n6, .ref n7, .ref n8, .ref n9, .ref n10])), (h0, .inr (3, [.ref h1, .int (nI 0), .int (nI 0), .int (nI 0), .ref h2, .ref h3])), (h2, .inl (T 0, 10, .inl (fun _ => nI 0)))]) (nA := 3) hC V hl.1 (c_isWithin l D T step (nI 0) (len - (nI 1))) w_292 w_293 w_2 w_294 (by decide +kernel) rfl ⟨(Nat.le_of_ble_eq_true rfl), (Nat.le_of_ble_eq_true rfl)⟩ [] [0, 1, 2, 3] rfl rfl rfl rfl (by decide) (Nat.le_of_ble_eq_true rfl) dX7_wave_15 ⟨(Nat.le_of_ble_eq_true rfl), (Nat.le_of_ble_eq_true rfl)⟩ rfl (fun r w1 H locs hQ V => ?_)
    rcases hQ with ⟨rfl, rfl, f_4, f_5⟩ | ⟨rfl, rfl, f_6⟩
    · have V : gW D T A s [(o, .inr (7, [.ref n0, .ref s0, .ref im, .ref iz, .ref rw, .ref t0, .ref u0, .ref h0, .ref y0, .null])), (n0, .inr (5, [.int (nI 0), .int (nI 0), .int (nI 0), .int (nI 20), .int (nI 0), .ref n1, .ref n2, .ref n3, .ref n4, .ref n5, .ref n6, .ref n7, .ref n8, .ref n9, .ref n10])), (h0, .inr (3, [.ref h1, .int (nI 0), .int (nI 0), .int (nI 0), .ref h2, .ref h3])), (h2, .inl (T 0, 10, .inl (fun _ => nI 0)))] H locs := V
      show W p l e _ s m args below meth c H locs _ _ _ (F0 m 18 ls [.int (nI 1)])
      obtain ⟨le, hle1, hle2, ele⟩ := g_rng (by decide) (by decide) f_1 f_2
      rw [ele] at hl
      refine lv_if_ne (tgt := 24) hx hb dX7_wave_18 (by decide) (fun _ => ?_) (fun c => absurd (show (nI 1) = 0 from c) (by decide +kernel))
      refine lv_aload_n hx hb dX7_wave_24 rfl (lv_at hl 0 rfl) ?_
      refine lv_iload_n hx hb dX7_wave_25 rfl (lv_at hl 1 rfl) ?_
      refine lv_iload_n hx hb dX7_wave_26 rfl (lv_at hl 2 rfl) ?_
      refine g_callV (wr := []) (nA := 2) hC V hl.1 (c_waveBreaks l D T o le step n0 s0 im iz rw t0 u0 h0 y0 n1 n2 n3 n4 n5 n6 n7 n8 n9 n10 h1 h2 h3 (by first | assumption | omega | decide)) w_637 w_639 w_s20 w_2 w_640 (by decide +kernel) rfl ⟨(Nat.le_of_ble_eq_true rfl), (Nat.le_of_ble_eq_true rfl)⟩ 0 (ci := 7) rfl rfl [0, 1, 2, 3] [] rfl rfl rfl rfl (by decide) (Nat.le_of_ble_eq_true rfl) dX7_wave_27 ⟨(Nat.le_of_ble_eq_true rfl), (Nat.le_of_ble_eq_true rfl)⟩ rfl (fun r w1 H locs hQ V => ?_)
      obtain ⟨g_7, rfl, rfl⟩ := hQ
      have V : gW D T A s [(o, .inr (7, [.ref n0, .ref s0, .ref im, .ref iz, .ref rw, .ref t0, .ref u0, .ref h0, .ref y0, .null])), (n0, .inr (5, [.int (nI 0), .int (nI 0), .int (nI 0), .int (nI 20), .int (nI 0), .ref n1, .ref n2, .ref n3, .ref n4, .ref n5, .ref n6, .ref n7, .ref n8, .ref n9, .ref n10])), (h0, .inr (3, [.ref h1, .int (-1), .int (-1), .int (nI le), .ref h2, .ref h3])), (h2, .inl (T 0, 10, .inl g_7))] H locs := V
      show W p l e _ s m args below meth c H locs _ _ _ (F0 m 30 ls [.int (-1)])
      have V := V.sub (ws' := []) [] rfl rfl
      exact g_iret (Qr := (q_X7_wave T o len step n0 s0 im iz rw t0 u0 h0 y0 n1 n2 n3 n4 n5 n6 n7 n8 n9 n10 h1 h2 h3)) hC V ⟨(Nat.le_of_ble_eq_true rfl), (Nat.le_of_ble_eq_true rfl)⟩ ⟨(-1), rfl, rfl, (by first | exact pf_wave_1 ‹_› | exact pf_wave_2 ‹_› | exact pf_wave_3 ‹_› ‹_› ‹_› ‹_›)⟩ dX7_wave_30
    · have V : gW D T A s [(o, .inr (7, [.ref n0, .ref s0, .ref im, .ref iz, .ref rw, .ref t0, .ref u0, .ref h0, .ref y0, .null])), (n0, .inr (5, [.int (nI 0), .int (nI 0), .int (nI 0), .int (nI 20), .int (nI 0), .ref n1, .ref n2, .ref n3, .ref n4, .ref n5, .ref n6, .ref n7, .ref n8, .ref n9, .ref n10])), (h0, .inr (3, [.ref h1, .int (nI 0), .int (nI 0), .int (nI 0), .ref h2, .ref h3])), (h2, .inl (T 0, 10, .inl (fun _ => nI 0)))] H locs := V
      show W p l e _ s m args below meth c H locs _ _ _ (F0 m 18 ls [.int (nI 0)])
      refine lv_if_ne (tgt := 24) hx hb dX7_wave_18 (by decide) (fun c => absurd (show (nI 0) = 0 by decide +kernel) c) (fun _ => ?_)
      refine lv_bipush (v := (-3)) hx hb dX7_wave_21 (by decide +kernel) ?_
      have V := V.sub (ws' := []) [] rfl rfl
      exact g_iret (Qr := (q_X7_wave T o len step n0 s0 im iz rw t0 u0 h0 y0 n1 n2 n3 n4 n5 n6 n7 n8 n9 n10 h1 h2 h3)) hC V ⟨(Nat.le_of_ble_eq_true rfl), (Nat.le_of_ble_eq_true rfl)⟩ ⟨(-3), rfl, rfl, (by first | exact pf_wave_1 ‹_› | exact pf_wave_2 ‹_› | exact pf_wave_3 ‹_› ‹_› ‹_› ‹_›)⟩ dX7_wave_23
  · have V : gW D T A s [(o, .inr (7, [.ref n0, .ref s0, .ref im, .ref iz, .ref rw, .ref t0, .ref u0, .ref h0, .ref y0, .null])), (n0, .inr (5, [.int (nI 0), .int (nI 0), .int (nI 0), .int (nI 20), .int (nI 0), .ref n1, .ref n2, .ref n3, .ref n4, .ref n5, .ref n6, .ref n7, .ref n8, .ref n9, .ref n10])), (h0, .inr (3, [.ref h1, .int (nI 0), .int (nI 0), .int (nI 0), .ref h2, .ref h3])), (h2, .inl (T 0, 10, .inl (fun _ => nI 0)))] H locs := V
    show W p l e _ s m args below meth c H locs _ _ _ (F0 m 7 ls [.int (nI 0)])
    refine lv_if_eq (tgt := 21) hx hb dX7_wave_7 (by decide) (fun _ => ?_) (fun c => absurd (show (nI 0) = 0 by decide +kernel) c)
    refine lv_bipush (v := (-3)) hx hb dX7_wave_21 (by decide +kernel) ?_
    have V := V.sub (ws' := []) [] rfl rfl
    exact g_iret (Qr := (q_X7_wave T o len step n0 s0 im iz rw t0 u0 h0 y0 n1 n2 n3 n4 n5 n6 n7 n8 n9 n10 h1 h2 h3)) hC V ⟨(Nat.le_of_ble_eq_true rfl), (Nat.le_of_ble_eq_true rfl)⟩ ⟨(-3), rfl, rfl, (by first | exact pf_wave_1 ‹_› | exact pf_wave_2 ‹_› | exact pf_wave_3 ‹_› ‹_› ‹_› ‹_›)⟩ dX7_wave_23

def q_X7_bestWave (T : Nat → ClassId) (o : Nat) (len : Int32) (n0 : Nat) (s0 : Nat) (im : Nat) (iz : Nat) (rw : Nat) (t0 : Nat) (u0 : Nat) (h0 : Nat) (y0 : Nat) (n1 : Nat) (n2 : Nat) (n3 : Nat) (n4 : Nat) (n5 : Nat) (n6 : Nat) (n7 : Nat) (n8 : Nat) (n9 : Nat) (n10 : Nat) (h1 : Nat) (h2 : Nat) (h3 : Nat) : Option Value → va_W → Prop := fun rr ww => (∃ (z : Int32), rr = some (.int z) ∧ ww = [] ∧ z = pf_bestWave len)
set_option maxHeartbeats 4000000 in
set_option maxRecDepth 100000 in
theorem p_X7_bestWave (l : Launch) (D : va_G) (T : Nat → ClassId) (o : Nat) (len : Int32) (n0 : Nat) (s0 : Nat) (im : Nat) (iz : Nat) (rw : Nat) (t0 : Nat) (u0 : Nat) (h0 : Nat) (y0 : Nat) (n1 : Nat) (n2 : Nat) (n3 : Nat) (n4 : Nat) (n5 : Nat) (n6 : Nat) (n7 : Nat) (n8 : Nat) (n9 : Nat) (n10 : Nat) (h1 : Nat) (h2 : Nat) (h3 : Nat) : Ct l yX7_bestWave cX7_bestWave 6 (some .int) 3 0 0 D T [.ref o, .int len] [(o, .inr (7, [.ref n0, .ref s0, .ref im, .ref iz, .ref rw, .ref t0, .ref u0, .ref h0, .ref y0, .null])), (n0, .inr (5, [.int (nI 0), .int (nI 0), .int (nI 0), .int (nI 20), .int (nI 0), .ref n1, .ref n2, .ref n3, .ref n4, .ref n5, .ref n6, .ref n7, .ref n8, .ref n9, .ref n10])), (h0, .inr (3, [.ref h1, .int (nI 0), .int (nI 0), .int (nI 0), .ref h2, .ref h3])), (h2, .inl (T 0, 10, .inl (fun _ => nI 0)))] (q_X7_bestWave T o len n0 s0 im iz rw t0 u0 h0 y0 n1 n2 n3 n4 n5 n6 n7 n8 n9 n10 h1 h2 h3) := by
  refine Ct.of (cc := cX7_bestWave) (maxL := 6) (ret := (some .int)) (by decide) (Nat.le_of_ble_eq_true rfl) ?_
  intro p e s m args below meth c A ls hC hnm V hl
  obtain ⟨hx, hb, hr, hml, hown, hts, hlocks⟩ := id hC
  generalize hH : s.heap = H at V ⊢
  clear hH
  have hl : lv_has ls 6 [(0, .ref o), (1, .int len)] := hl
  generalize hlo : ([] : List Loc) = locs at V ⊢
  clear hlo
  refine lv_iload_n hx hb dX7_bestWave_0 rfl (lv_at hl 1 rfl) ?_
  refine lv_iconst (v := (nI 1)) hx hb dX7_bestWave_1 (by decide +kernel) ?_
  refine lv_bipush (v := (nI 12)) hx hb dX7_bestWave_2 (by decide +kernel) ?_
  refine g_callS (wr := [(o, .inr (7, [.ref n0, .ref s0, .ref im, .ref iz, .ref rw, .ref t0, .ref u0, .ref h0, .ref y0, .null])), (n0, .inr (5, [.int (nI 0), .int (nI 0), .int (nI 0), .int (nI 20), .int (nI 0), .ref n1, .ref n2, .ref n3, .ref n4, .ref n5, .ref n6, .ref n7, .ref n8, .ref n9, .ref n10])), (h0, .inr (3, [.ref h1, .int (nI 0), .int (nI 0), .int (nI 0), .ref h2, .ref h3])), (h2, .inl (T 0, 10, .inl (fun _ => nI 0)))]) (nA := 3) hC V hl.1 (c_isWithin l D T len (nI 1) (nI 12)) w_292 w_293 w_2 w_294 (by decide +kernel) rfl ⟨(Nat.le_of_ble_eq_true rfl), (Nat.le_of_ble_eq_true rfl)⟩ [] [0, 1, 2, 3] rfl rfl rfl rfl (by decide) (Nat.le_of_ble_eq_true rfl) dX7_bestWave_4 ⟨(Nat.le_of_ble_eq_true rfl), (Nat.le_of_ble_eq_true rfl)⟩ rfl (fun r w1 H locs hQ V => ?_)
  rcases hQ with ⟨rfl, rfl, f_1, f_2⟩ | ⟨rfl, rfl, f_3⟩
  · have V : gW D T A s [(o, .inr (7, [.ref n0, .ref s0, .ref im, .ref iz, .ref rw, .ref t0, .ref u0, .ref h0, .ref y0, .null])), (n0, .inr (5, [.int (nI 0), .int (nI 0), .int (nI 0), .int (nI 20), .int (nI 0), .ref n1, .ref n2, .ref n3, .ref n4, .ref n5, .ref n6, .ref n7, .ref n8, .ref n9, .ref n10])), (h0, .inr (3, [.ref h1, .int (nI 0), .int (nI 0), .int (nI 0), .ref h2, .ref h3])), (h2, .inl (T 0, 10, .inl (fun _ => nI 0)))] H locs := V
    show W p l e _ s m args below meth c H locs _ _ _ (F0 m 7 ls [.int (nI 1)])
    obtain ⟨le, hle1, hle2, ele⟩ := g_rng (by decide) (by decide) f_1 f_2
    rw [ele] at hl
    refine lv_if_ne (tgt := 13) hx hb dX7_bestWave_7 (by decide) (fun _ => ?_) (fun c => absurd (show (nI 1) = 0 from c) (by decide +kernel))
    refine lv_iconst (v := (nI 0)) hx hb dX7_bestWave_13 (by decide +kernel) ?_
    refine lv_istore_n (lv' := [(2, .int (nI 0)), (0, .ref o), (1, .int (nI le))]) hx hb dX7_bestWave_14 rfl hl (by decide) rfl (fun ls hl => ?_)
    refine lv_iconst (v := (nI 0)) hx hb dX7_bestWave_15 (by decide +kernel) ?_
    refine lv_istore_n (lv' := [(3, .int (nI 0)), (2, .int (nI 0)), (0, .ref o), (1, .int (nI le))]) hx hb dX7_bestWave_16 rfl hl (by decide) rfl (fun ls hl => ?_)
    refine lv_iconst (v := (nI 0)) hx hb dX7_bestWave_17 (by decide +kernel) ?_
    refine lv_istore (lv' := [(4, .int (nI 0)), (3, .int (nI 0)), (2, .int (nI 0)), (0, .ref o), (1, .int (nI le))]) hx hb dX7_bestWave_18 hl (by decide) rfl (fun ls hl => ?_)
    refine lv_iload hx hb dX7_bestWave_20 (lv_at hl 0 rfl) ?_
    refine lv_iload_n hx hb dX7_bestWave_22 rfl (lv_at hl 4 rfl) ?_
    refine lv_icmp_ge (tgt := 62) hx hb dX7_bestWave_23 (by decide) (fun c_4 => ?_) (fun c_4 => ?_)
    · skip
      have c_4 := b_le (by omega) (by omega) c_4
      exact (by omega : False).elim
    · skip
      have c_4 := b_nle (by omega) (by omega) c_4
      refine lv_aload_n hx hb dX7_bestWave_26 rfl (lv_at hl 3 rfl) ?_
      refine lv_iload_n hx hb dX7_bestWave_27 rfl (lv_at hl 4 rfl) ?_
      refine lv_iload hx hb dX7_bestWave_28 (lv_at hl 0 rfl) ?_
      refine g_callV (wr := []) (nA := 2) hC V hl.1 (c_waveBreaks l D T o le (nI 0) n0 s0 im iz rw t0 u0 h0 y0 n1 n2 n3 n4 n5 n6 n7 n8 n9 n10 h1 h2 h3 (by first | assumption | omega | decide)) w_637 w_639 w_s20 w_2 w_640 (by decide +kernel) rfl ⟨(Nat.le_of_ble_eq_true rfl), (Nat.le_of_ble_eq_true rfl)⟩ 0 (ci := 7) rfl rfl [0, 1, 2, 3] [] rfl rfl rfl rfl (by decide) (Nat.le_of_ble_eq_true rfl) dX7_bestWave_30 ⟨(Nat.le_of_ble_eq_true rfl), (Nat.le_of_ble_eq_true rfl)⟩ rfl (fun r w1 H locs hQ V => ?_)
      obtain ⟨g_5, rfl, rfl⟩ := hQ
      have V : gW D T A s [(o, .inr (7, [.ref n0, .ref s0, .ref im, .ref iz, .ref rw, .ref t0, .ref u0, .ref h0, .ref y0, .null])), (n0, .inr (5, [.int (nI 0), .int (nI 0), .int (nI 0), .int (nI 20), .int (nI 0), .ref n1, .ref n2, .ref n3, .ref n4, .ref n5, .ref n6, .ref n7, .ref n8, .ref n9, .ref n10])), (h0, .inr (3, [.ref h1, .int (-1), .int (-1), .int (nI le), .ref h2, .ref h3])), (h2, .inl (T 0, 10, .inl g_5))] H locs := V
      show W p l e _ s m args below meth c H locs _ _ _ (F0 m 33 ls [.int (-1)])
      refine lv_istore (lv' := [(5, .int (-1)), (4, .int (nI 0)), (3, .int (nI 0)), (2, .int (nI 0)), (0, .ref o), (1, .int (nI le))]) hx hb dX7_bestWave_33 hl (by decide) rfl (fun ls hl => ?_)
      refine lv_iload hx hb dX7_bestWave_35 (lv_at hl 0 rfl) ?_
      refine lv_iconst (v := (-1)) hx hb dX7_bestWave_37 (by decide +kernel) ?_
      refine lv_icmp_ne (tgt := 44) hx hb dX7_bestWave_38 (by decide) (fun c => absurd (show (-1 : Int32) = (-1 : Int32) by first | rfl | decide +kernel) c) (fun _ => ?_)
      refine lv_iload hx hb dX7_bestWave_41 (lv_at hl 1 rfl) ?_
      have V := V.sub (ws' := []) [] rfl rfl
      exact g_iret (Qr := (q_X7_bestWave T o len n0 s0 im iz rw t0 u0 h0 y0 n1 n2 n3 n4 n5 n6 n7 n8 n9 n10 h1 h2 h3)) hC V ⟨(Nat.le_of_ble_eq_true rfl), (Nat.le_of_ble_eq_true rfl)⟩ ⟨(nI 0), rfl, rfl, (by first | exact pf_bestWave_1 ‹_› | exact pf_bestWave_2 ‹_› ‹_›)⟩ dX7_bestWave_43
  · have V : gW D T A s [(o, .inr (7, [.ref n0, .ref s0, .ref im, .ref iz, .ref rw, .ref t0, .ref u0, .ref h0, .ref y0, .null])), (n0, .inr (5, [.int (nI 0), .int (nI 0), .int (nI 0), .int (nI 20), .int (nI 0), .ref n1, .ref n2, .ref n3, .ref n4, .ref n5, .ref n6, .ref n7, .ref n8, .ref n9, .ref n10])), (h0, .inr (3, [.ref h1, .int (nI 0), .int (nI 0), .int (nI 0), .ref h2, .ref h3])), (h2, .inl (T 0, 10, .inl (fun _ => nI 0)))] H locs := V
    show W p l e _ s m args below meth c H locs _ _ _ (F0 m 7 ls [.int (nI 0)])
    refine lv_if_ne (tgt := 13) hx hb dX7_bestWave_7 (by decide) (fun c => absurd (show (nI 0) = 0 by decide +kernel) c) (fun _ => ?_)
    refine lv_bipush (v := (-3)) hx hb dX7_bestWave_10 (by decide +kernel) ?_
    have V := V.sub (ws' := []) [] rfl rfl
    exact g_iret (Qr := (q_X7_bestWave T o len n0 s0 im iz rw t0 u0 h0 y0 n1 n2 n3 n4 n5 n6 n7 n8 n9 n10 h1 h2 h3)) hC V ⟨(Nat.le_of_ble_eq_true rfl), (Nat.le_of_ble_eq_true rfl)⟩ ⟨(-3), rfl, rfl, (by first | exact pf_bestWave_1 ‹_› | exact pf_bestWave_2 ‹_› ‹_›)⟩ dX7_bestWave_12

def q_holdAll (T : Nat → ClassId) (h0 : Nat) (n0 : Nat) (n1 : Nat) (n2 : Nat) (n3 : Nat) (n4 : Nat) (n5 : Nat) (n6 : Nat) (n7 : Nat) (n8 : Nat) (n9 : Nat) (n10 : Nat) : Option Value → va_W → Prop := fun rr ww => (rr = some (.int (nI 1)) ∧ ww = [(n0, .inr (5, [.int (nI 0), .int (nI 0), .int (nI 0), .int (nI 20), .int (nI 0), .ref n1, .ref n2, .ref n3, .ref n4, .ref n5, .ref n6, .ref n7, .ref n8, .ref n9, .ref n10]))])
set_option maxHeartbeats 4000000 in
set_option maxRecDepth 100000 in
theorem c_holdAll (l : Launch) (D : va_G) (T : Nat → ClassId) (h0 : Nat) (n0 : Nat) (n1 : Nat) (n2 : Nat) (n3 : Nat) (n4 : Nat) (n5 : Nat) (n6 : Nat) (n7 : Nat) (n8 : Nat) (n9 : Nat) (n10 : Nat) : Ct l yX3_holdAll cX3_holdAll 3 (some .boolean) 0 0 0 D T [.ref h0, .ref n0] [(n0, .inr (5, [.int (nI 0), .int (nI 0), .int (nI 0), .int (nI 20), .int (nI 0), .ref n1, .ref n2, .ref n3, .ref n4, .ref n5, .ref n6, .ref n7, .ref n8, .ref n9, .ref n10]))] (q_holdAll T h0 n0 n1 n2 n3 n4 n5 n6 n7 n8 n9 n10) := by
  refine Ct.of (cc := cX3_holdAll) (maxL := 3) (ret := (some .boolean)) (by decide) (Nat.le_of_ble_eq_true rfl) ?_
  intro p e s m args below meth c A ls hC hnm V hl
  obtain ⟨hx, hb, hr, hml, hown, hts, hlocks⟩ := id hC
  generalize hH : s.heap = H at V ⊢
  clear hH
  have hl : lv_has ls 3 [(0, .ref h0), (1, .ref n0)] := hl
  generalize hlo : ([] : List Loc) = locs at V ⊢
  clear hlo
  refine lv_iconst (v := (nI 0)) hx hb dX3_holdAll_0 (by decide +kernel) ?_
  refine lv_istore_n (lv' := [(2, .int (nI 0)), (0, .ref h0), (1, .ref n0)]) hx hb dX3_holdAll_1 rfl hl (by decide) rfl (fun ls hl => ?_)
  refine lv_iload_n hx hb dX3_holdAll_2 rfl (lv_at hl 0 rfl) ?_
  refine lv_aload_n hx hb dX3_holdAll_3 rfl (lv_at hl 2 rfl) ?_
  refine g_get hC V (ci := 5) uwX5 0 rfl rfl 0 (by decide) w_37 rfl rfl dX3_holdAll_4 ?_
  refine lv_icmp_ge (tgt := 28) hx hb dX3_holdAll_7 (by decide) (fun _ => ?_) (fun c => absurd (show (nI 0) ≤ (nI 0) by first | rfl | decide +kernel) c)
  refine lv_iconst (v := (nI 1)) hx hb dX3_holdAll_28 (by decide +kernel) ?_
  exact g_zret (Qr := (q_holdAll T h0 n0 n1 n2 n3 n4 n5 n6 n7 n8 n9 n10)) hC V ⟨(Nat.le_of_ble_eq_true rfl), (Nat.le_of_ble_eq_true rfl)⟩ (by first | decide +kernel | exact rfl) ⟨rfl, rfl⟩ dX3_holdAll_29

def q_seekBest (T : Nat → ClassId) (h0 : Nat) (n0 : Nat) (len : Int32) (h1 : Nat) (h2 : Nat) (h3 : Nat) (n1 : Nat) (n2 : Nat) (n3 : Nat) (n4 : Nat) (n5 : Nat) (n6 : Nat) (n7 : Nat) (n8 : Nat) (n9 : Nat) (n10 : Nat) : Option Value → va_W → Prop := fun rr ww => (∃ (g : Nat → Int32), rr = some (.int (nI 0)) ∧ ww = [(h0, .inr (3, [.ref h1, .int (nI 0), .int (nI 0), .int len, .ref h2, .ref h3])), (h1, .inl (T 0, 10, .inl g)), (h2, .inl (T 0, 10, .inl (fun _ => nI 0))), (n0, .inr (5, [.int (nI 0), .int (nI 0), .int (nI 0), .int (nI 20), .int (nI 0), .ref n1, .ref n2, .ref n3, .ref n4, .ref n5, .ref n6, .ref n7, .ref n8, .ref n9, .ref n10]))])
set_option maxHeartbeats 4000000 in
set_option maxRecDepth 100000 in
theorem c_seekBest (l : Launch) (D : va_G) (T : Nat → ClassId) (h0 : Nat) (n0 : Nat) (len : Int32) (h1 : Nat) (h2 : Nat) (h3 : Nat) (n1 : Nat) (n2 : Nat) (n3 : Nat) (n4 : Nat) (n5 : Nat) (n6 : Nat) (n7 : Nat) (n8 : Nat) (n9 : Nat) (n10 : Nat) : Ct l yX3_seekBestRound cX3_seekBestRound 7 (some .int) 1 0 0 D T [.ref h0, .ref n0, .int len] [(h0, .inr (3, [.ref h1, .int (nI 0), .int (nI 0), .int (nI 0), .ref h2, .ref h3])), (h1, .inl (T 0, 10, .inl (fun _ => nI 0))), (h2, .inl (T 0, 10, .inl (fun _ => nI 0))), (n0, .inr (5, [.int (nI 0), .int (nI 0), .int (nI 0), .int (nI 20), .int (nI 0), .ref n1, .ref n2, .ref n3, .ref n4, .ref n5, .ref n6, .ref n7, .ref n8, .ref n9, .ref n10]))] (q_seekBest T h0 n0 len h1 h2 h3 n1 n2 n3 n4 n5 n6 n7 n8 n9 n10) := by
  refine Ct.of (cc := cX3_seekBestRound) (maxL := 7) (ret := (some .int)) (by decide) (Nat.le_of_ble_eq_true rfl) ?_
  intro p e s m args below meth c A ls hC hnm V hl
  obtain ⟨hx, hb, hr, hml, hown, hts, hlocks⟩ := id hC
  generalize hH : s.heap = H at V ⊢
  clear hH
  have hl : lv_has ls 7 [(0, .ref h0), (1, .ref n0), (2, .int len)] := hl
  generalize hlo : ([] : List Loc) = locs at V ⊢
  clear hlo
  refine lv_aload_n hx hb dX3_seekBestRound_0 rfl (lv_at hl 0 rfl) ?_
  refine lv_iload_n hx hb dX3_seekBestRound_1 rfl (lv_at hl 2 rfl) ?_
  refine g_put hC V (ci := 3) uwX3 tyX3 tyX3_ok nmX3 0 rfl rfl 3 (by decide) w_189 rfl rfl rfl rfl (Nat.le_of_ble_eq_true rfl) (ws' := [(h0, .inr (3, [.ref h1, .int (nI 0), .int (nI 0), .int len, .ref h2, .ref h3])), (h1, .inl (T 0, 10, .inl (fun _ => nI 0))), (h2, .inl (T 0, 10, .inl (fun _ => nI 0))), (n0, .inr (5, [.int (nI 0), .int (nI 0), .int (nI 0), .int (nI 20), .int (nI 0), .ref n1, .ref n2, .ref n3, .ref n4, .ref n5, .ref n6, .ref n7, .ref n8, .ref n9, .ref n10]))]) rfl dX3_seekBestRound_2 (fun H locs V => ?_)
  refine lv_iconst (v := (-1)) hx hb dX3_seekBestRound_5 (by decide +kernel) ?_
  refine lv_istore_n (lv' := [(3, .int (-1)), (0, .ref h0), (1, .ref n0), (2, .int len)]) hx hb dX3_seekBestRound_6 rfl hl (by decide) rfl (fun ls hl => ?_)
  refine lv_iconst (v := (nI 0)) hx hb dX3_seekBestRound_7 (by decide +kernel) ?_
  refine lv_istore (lv' := [(4, .int (nI 0)), (3, .int (-1)), (0, .ref h0), (1, .ref n0), (2, .int len)]) hx hb dX3_seekBestRound_8 hl (by decide) rfl (fun ls hl => ?_)
  refine lv_iload hx hb dX3_seekBestRound_10 (lv_at hl 0 rfl) ?_
  refine lv_iconst (v := (nI 1)) hx hb dX3_seekBestRound_12 (by decide +kernel) ?_
  refine lv_aload_n hx hb dX3_seekBestRound_13 rfl (lv_at hl 3 rfl) ?_
  refine g_get hC V (ci := 5) uwX5 3 rfl rfl 0 (by decide) w_37 rfl rfl dX3_seekBestRound_14 ?_
  refine lv_aload_n hx hb dX3_seekBestRound_17 rfl (lv_at hl 2 rfl) ?_
  refine g_get hC V (ci := 3) uwX3 0 rfl rfl 3 (by decide) w_189 rfl rfl dX3_seekBestRound_18 ?_
  refine lv_imul hx hb dX3_seekBestRound_21 ?_
  refine g_vi (y := (nI 0)) (by rw [nI_0]; exact Int32.zero_mul) ?_
  refine lv_ishl hx hb dX3_seekBestRound_22 ?_
  refine g_vi (y := (nI 1)) (by decide +kernel) ?_
  refine lv_icmp_ge (tgt := 126) hx hb dX3_seekBestRound_23 (by decide) (fun c => absurd (show (nI 1) ≤ (nI 0) from c) (by decide +kernel)) (fun _ => ?_)
  refine lv_iload hx hb dX3_seekBestRound_26 (lv_at hl 0 rfl) ?_
  refine g_callS (wr := [(h0, .inr (3, [.ref h1, .int (nI 0), .int (nI 0), .int len, .ref h2, .ref h3])), (h1, .inl (T 0, 10, .inl (fun _ => nI 0))), (h2, .inl (T 0, 10, .inl (fun _ => nI 0))), (n0, .inr (5, [.int (nI 0), .int (nI 0), .int (nI 0), .int (nI 20), .int (nI 0), .ref n1, .ref n2, .ref n3, .ref n4, .ref n5, .ref n6, .ref n7, .ref n8, .ref n9, .ref n10]))]) (nA := 1) hC V hl.1 (c_bitCount0 l D T) w_660 w_661 w_16 w_662 (by decide +kernel) rfl ⟨(Nat.le_of_ble_eq_true rfl), (Nat.le_of_ble_eq_true rfl)⟩ [] [0, 1, 2, 3] rfl rfl rfl rfl (by decide) (Nat.le_of_ble_eq_true rfl) dX3_seekBestRound_28 ⟨(Nat.le_of_ble_eq_true rfl), (Nat.le_of_ble_eq_true rfl)⟩ rfl (fun r w1 H locs hQ V => ?_)
  obtain ⟨rfl, rfl⟩ := hQ
  have V : gW D T A s [(h0, .inr (3, [.ref h1, .int (nI 0), .int (nI 0), .int len, .ref h2, .ref h3])), (h1, .inl (T 0, 10, .inl (fun _ => nI 0))), (h2, .inl (T 0, 10, .inl (fun _ => nI 0))), (n0, .inr (5, [.int (nI 0), .int (nI 0), .int (nI 0), .int (nI 20), .int (nI 0), .ref n1, .ref n2, .ref n3, .ref n4, .ref n5, .ref n6, .ref n7, .ref n8, .ref n9, .ref n10]))] H locs := V
  show W p l e _ s m args below meth c H locs _ _ _ (F0 m 31 ls [.int (nI 0)])
  refine lv_istore (lv' := [(5, .int (nI 0)), (4, .int (nI 0)), (3, .int (-1)), (0, .ref h0), (1, .ref n0), (2, .int len)]) hx hb dX3_seekBestRound_31 hl (by decide) rfl (fun ls hl => ?_)
  refine lv_iload_n hx hb dX3_seekBestRound_33 rfl (lv_at hl 2 rfl) ?_
  refine lv_iconst (v := (-1)) hx hb dX3_seekBestRound_34 (by decide +kernel) ?_
  refine lv_icmp_eq (tgt := 47) hx hb dX3_seekBestRound_35 (by decide) (fun _ => ?_) (fun c => absurd (show (-1 : Int32) = (-1 : Int32) by first | rfl | decide +kernel) c)
  refine lv_iconst (v := (nI 0)) hx hb dX3_seekBestRound_47 (by decide +kernel) ?_
  refine lv_istore (lv' := [(6, .int (nI 0)), (5, .int (nI 0)), (4, .int (nI 0)), (3, .int (-1)), (0, .ref h0), (1, .ref n0), (2, .int len)]) hx hb dX3_seekBestRound_48 hl (by decide) rfl (fun ls hl => ?_)
  refine lv_iload hx hb dX3_seekBestRound_50 (lv_at hl 0 rfl) ?_
  refine lv_aload_n hx hb dX3_seekBestRound_52 rfl (lv_at hl 5 rfl) ?_
  refine g_get hC V (ci := 5) uwX5 3 rfl rfl 0 (by decide) w_37 rfl rfl dX3_seekBestRound_53 ?_
  refine lv_icmp_ge (tgt := 94) hx hb dX3_seekBestRound_56 (by decide) (fun _ => ?_) (fun c => absurd (show (nI 0) ≤ (nI 0) by first | rfl | decide +kernel) c)
  refine lv_aload_n hx hb dX3_seekBestRound_94 rfl (lv_at hl 4 rfl) ?_
  refine lv_aload_n hx hb dX3_seekBestRound_95 rfl (lv_at hl 5 rfl) ?_
  refine g_callV (wr := [(h0, .inr (3, [.ref h1, .int (nI 0), .int (nI 0), .int len, .ref h2, .ref h3])), (h1, .inl (T 0, 10, .inl (fun _ => nI 0))), (h2, .inl (T 0, 10, .inl (fun _ => nI 0)))]) (nA := 1) hC V hl.1 (c_holdAll l D T h0 n0 n1 n2 n3 n4 n5 n6 n7 n8 n9 n10) w_666 w_668 w_s21 w_6 w_669 (by decide +kernel) rfl ⟨(Nat.le_of_ble_eq_true rfl), (Nat.le_of_ble_eq_true rfl)⟩ 0 (ci := 3) rfl rfl [3] [0, 1, 2] rfl rfl rfl rfl (by decide) (Nat.le_of_ble_eq_true rfl) dX3_seekBestRound_96 ⟨(Nat.le_of_ble_eq_true rfl), (Nat.le_of_ble_eq_true rfl)⟩ rfl (fun r w1 H locs hQ V => ?_)
  obtain ⟨rfl, rfl⟩ := hQ
  have V : gW D T A s [(h0, .inr (3, [.ref h1, .int (nI 0), .int (nI 0), .int len, .ref h2, .ref h3])), (h1, .inl (T 0, 10, .inl (fun _ => nI 0))), (h2, .inl (T 0, 10, .inl (fun _ => nI 0))), (n0, .inr (5, [.int (nI 0), .int (nI 0), .int (nI 0), .int (nI 20), .int (nI 0), .ref n1, .ref n2, .ref n3, .ref n4, .ref n5, .ref n6, .ref n7, .ref n8, .ref n9, .ref n10]))] H locs := V
  show W p l e _ s m args below meth c H locs _ _ _ (F0 m 99 ls [.int (nI 1)])
  refine lv_if_eq (tgt := 120) hx hb dX3_seekBestRound_99 (by decide) (fun c => absurd (show (nI 1) = 0 from c) (by decide +kernel)) (fun _ => ?_)
  refine lv_iload hx hb dX3_seekBestRound_102 (lv_at hl 1 rfl) ?_
  refine lv_istore_n (lv' := [(3, .int (nI 0)), (6, .int (nI 0)), (5, .int (nI 0)), (4, .int (nI 0)), (0, .ref h0), (1, .ref n0), (2, .int len)]) hx hb dX3_seekBestRound_104 rfl hl (by decide) rfl (fun ls hl => ?_)
  refine lv_aload_n hx hb dX3_seekBestRound_105 rfl (lv_at hl 4 rfl) ?_
  refine g_get hC V (ci := 3) uwX3 0 rfl rfl 4 (by decide) w_190 rfl rfl dX3_seekBestRound_106 ?_
  refine lv_iconst (v := (nI 0)) hx hb dX3_seekBestRound_109 (by decide +kernel) ?_
  refine lv_aload_n hx hb dX3_seekBestRound_110 rfl (lv_at hl 4 rfl) ?_
  refine g_get hC V (ci := 3) uwX3 0 rfl rfl 0 (by decide) w_183 rfl rfl dX3_seekBestRound_111 ?_
  refine lv_iconst (v := (nI 0)) hx hb dX3_seekBestRound_114 (by decide +kernel) ?_
  refine lv_bipush (v := (nI 10)) hx hb dX3_seekBestRound_115 (by decide +kernel) ?_
  refine g_copyi hC V hl.1 w_670 w_672 w_671 w_17 2 1 rfl rfl (by decide +kernel) (by decide +kernel) (Nat.le_of_ble_eq_true rfl) (Nat.le_of_ble_eq_true rfl) (Nat.le_of_ble_eq_true rfl) dX3_seekBestRound_117 (fun g_1 H locs V => ?_)
  have V : gW D T A s [(h0, .inr (3, [.ref h1, .int (nI 0), .int (nI 0), .int len, .ref h2, .ref h3])), (h1, .inl (T 0, 10, .inl g_1)), (h2, .inl (T 0, 10, .inl (fun _ => nI 0))), (n0, .inr (5, [.int (nI 0), .int (nI 0), .int (nI 0), .int (nI 20), .int (nI 0), .ref n1, .ref n2, .ref n3, .ref n4, .ref n5, .ref n6, .ref n7, .ref n8, .ref n9, .ref n10]))] H locs := V
  refine lv_iinc (v := (nI 1)) (lv' := [(4, .int (nI 1)), (3, .int (nI 0)), (6, .int (nI 0)), (5, .int (nI 0)), (0, .ref h0), (1, .ref n0), (2, .int len)]) hx hb dX3_seekBestRound_120 hl (k := 3) rfl (by decide +kernel) (by decide) rfl (fun ls hl => ?_)
  refine lv_goto (tgt := 10) hx hb dX3_seekBestRound_123 (by decide) ?_
  refine lv_iload hx hb dX3_seekBestRound_10 (lv_at hl 0 rfl) ?_
  refine lv_iconst (v := (nI 1)) hx hb dX3_seekBestRound_12 (by decide +kernel) ?_
  refine lv_aload_n hx hb dX3_seekBestRound_13 rfl (lv_at hl 5 rfl) ?_
  refine g_get hC V (ci := 5) uwX5 3 rfl rfl 0 (by decide) w_37 rfl rfl dX3_seekBestRound_14 ?_
  refine lv_aload_n hx hb dX3_seekBestRound_17 rfl (lv_at hl 4 rfl) ?_
  refine g_get hC V (ci := 3) uwX3 0 rfl rfl 3 (by decide) w_189 rfl rfl dX3_seekBestRound_18 ?_
  refine lv_imul hx hb dX3_seekBestRound_21 ?_
  refine g_vi (y := (nI 0)) (by rw [nI_0]; exact Int32.zero_mul) ?_
  refine lv_ishl hx hb dX3_seekBestRound_22 ?_
  refine g_vi (y := (nI 1)) (by decide +kernel) ?_
  refine lv_icmp_ge (tgt := 126) hx hb dX3_seekBestRound_23 (by decide) (fun _ => ?_) (fun c => absurd (show (nI 1) ≤ (nI 1) by first | rfl | decide +kernel) c)
  refine lv_iload_n hx hb dX3_seekBestRound_126 rfl (lv_at hl 1 rfl) ?_
  exact g_iret (Qr := (q_seekBest T h0 n0 len h1 h2 h3 n1 n2 n3 n4 n5 n6 n7 n8 n9 n10)) hC V ⟨(Nat.le_of_ble_eq_true rfl), (Nat.le_of_ble_eq_true rfl)⟩ ⟨g_1, rfl, rfl⟩ dX3_seekBestRound_127

def q_X7_bestRound (T : Nat → ClassId) (o : Nat) (len : Int32) (what : Int32) (n0 : Nat) (s0 : Nat) (im : Nat) (iz : Nat) (rw : Nat) (t0 : Nat) (u0 : Nat) (h0 : Nat) (y0 : Nat) (n1 : Nat) (n2 : Nat) (n3 : Nat) (n4 : Nat) (n5 : Nat) (n6 : Nat) (n7 : Nat) (n8 : Nat) (n9 : Nat) (n10 : Nat) (h1 : Nat) (h2 : Nat) (h3 : Nat) : Option Value → va_W → Prop := fun rr ww => (∃ (z : Int32), rr = some (.int z) ∧ ww = [] ∧ z = pf_bestRound len what)
set_option maxHeartbeats 4000000 in
set_option maxRecDepth 100000 in
theorem p_X7_bestRound (l : Launch) (D : va_G) (T : Nat → ClassId) (o : Nat) (len : Int32) (what : Int32) (n0 : Nat) (s0 : Nat) (im : Nat) (iz : Nat) (rw : Nat) (t0 : Nat) (u0 : Nat) (h0 : Nat) (y0 : Nat) (n1 : Nat) (n2 : Nat) (n3 : Nat) (n4 : Nat) (n5 : Nat) (n6 : Nat) (n7 : Nat) (n8 : Nat) (n9 : Nat) (n10 : Nat) (h1 : Nat) (h2 : Nat) (h3 : Nat) : Ct l yX7_bestRound cX7_bestRound 4 (some .int) 2 0 0 D T [.ref o, .int len, .int what] [(o, .inr (7, [.ref n0, .ref s0, .ref im, .ref iz, .ref rw, .ref t0, .ref u0, .ref h0, .ref y0, .null])), (n0, .inr (5, [.int (nI 0), .int (nI 0), .int (nI 0), .int (nI 20), .int (nI 0), .ref n1, .ref n2, .ref n3, .ref n4, .ref n5, .ref n6, .ref n7, .ref n8, .ref n9, .ref n10])), (h0, .inr (3, [.ref h1, .int (nI 0), .int (nI 0), .int (nI 0), .ref h2, .ref h3])), (h1, .inl (T 0, 10, .inl (fun _ => nI 0))), (h2, .inl (T 0, 10, .inl (fun _ => nI 0)))] (q_X7_bestRound T o len what n0 s0 im iz rw t0 u0 h0 y0 n1 n2 n3 n4 n5 n6 n7 n8 n9 n10 h1 h2 h3) := by
  refine Ct.of (cc := cX7_bestRound) (maxL := 4) (ret := (some .int)) (by decide) (Nat.le_of_ble_eq_true rfl) ?_
  intro p e s m args below meth c A ls hC hnm V hl
  obtain ⟨hx, hb, hr, hml, hown, hts, hlocks⟩ := id hC
  generalize hH : s.heap = H at V ⊢
  clear hH
  have hl : lv_has ls 4 [(0, .ref o), (1, .int len), (2, .int what)] := hl
  generalize hlo : ([] : List Loc) = locs at V ⊢
  clear hlo
  refine lv_iload_n hx hb dX7_bestRound_0 rfl (lv_at hl 2 rfl) ?_
  refine lv_if_eq (tgt := 21) hx hb dX7_bestRound_1 (by decide) (fun c_1 => ?_) (fun c_1 => ?_)
  · skip
    refine lv_iload_n hx hb dX7_bestRound_21 rfl (lv_at hl 1 rfl) ?_
    refine lv_iconst (v := (nI 1)) hx hb dX7_bestRound_22 (by decide +kernel) ?_
    refine lv_bipush (v := (nI 10)) hx hb dX7_bestRound_23 (by decide +kernel) ?_
    refine g_callS (wr := [(o, .inr (7, [.ref n0, .ref s0, .ref im, .ref iz, .ref rw, .ref t0, .ref u0, .ref h0, .ref y0, .null])), (n0, .inr (5, [.int (nI 0), .int (nI 0), .int (nI 0), .int (nI 20), .int (nI 0), .ref n1, .ref n2, .ref n3, .ref n4, .ref n5, .ref n6, .ref n7, .ref n8, .ref n9, .ref n10])), (h0, .inr (3, [.ref h1, .int (nI 0), .int (nI 0), .int (nI 0), .ref h2, .ref h3])), (h1, .inl (T 0, 10, .inl (fun _ => nI 0))), (h2, .inl (T 0, 10, .inl (fun _ => nI 0)))]) (nA := 3) hC V hl.1 (c_isWithin l D T len (nI 1) (nI 10)) w_292 w_293 w_2 w_294 (by decide +kernel) rfl ⟨(Nat.le_of_ble_eq_true rfl), (Nat.le_of_ble_eq_true rfl)⟩ [] [0, 1, 2, 3, 4] rfl rfl rfl rfl (by decide) (Nat.le_of_ble_eq_true rfl) dX7_bestRound_25 ⟨(Nat.le_of_ble_eq_true rfl), (Nat.le_of_ble_eq_true rfl)⟩ rfl (fun r w1 H locs hQ V => ?_)
    rcases hQ with ⟨rfl, rfl, f_2, f_3⟩ | ⟨rfl, rfl, f_4⟩
    · have V : gW D T A s [(o, .inr (7, [.ref n0, .ref s0, .ref im, .ref iz, .ref rw, .ref t0, .ref u0, .ref h0, .ref y0, .null])), (n0, .inr (5, [.int (nI 0), .int (nI 0), .int (nI 0), .int (nI 20), .int (nI 0), .ref n1, .ref n2, .ref n3, .ref n4, .ref n5, .ref n6, .ref n7, .ref n8, .ref n9, .ref n10])), (h0, .inr (3, [.ref h1, .int (nI 0), .int (nI 0), .int (nI 0), .ref h2, .ref h3])), (h1, .inl (T 0, 10, .inl (fun _ => nI 0))), (h2, .inl (T 0, 10, .inl (fun _ => nI 0)))] H locs := V
      show W p l e _ s m args below meth c H locs _ _ _ (F0 m 28 ls [.int (nI 1)])
      refine lv_if_ne (tgt := 34) hx hb dX7_bestRound_28 (by decide) (fun _ => ?_) (fun c => absurd (show (nI 1) = 0 from c) (by decide +kernel))
      refine lv_aload_n hx hb dX7_bestRound_34 rfl (lv_at hl 0 rfl) ?_
      refine g_get hC V (ci := 7) uwX7 0 rfl rfl 0 (by decide) w_249 rfl rfl dX7_bestRound_35 ?_
      refine g_get hC V (ci := 5) uwX5 1 rfl rfl 0 (by decide) w_38 rfl rfl dX7_bestRound_38 ?_
      refine lv_iload_n hx hb dX7_bestRound_41 rfl (lv_at hl 1 rfl) ?_
      refine lv_imul hx hb dX7_bestRound_42 ?_
      refine g_vi (y := (nI 0)) (by rw [nI_0]; exact Int32.zero_mul) ?_
      refine lv_bipush (v := (nI 10)) hx hb dX7_bestRound_43 (by decide +kernel) ?_
      refine lv_icmp_le (tgt := 51) hx hb dX7_bestRound_45 (by decide) (fun _ => ?_) (fun c => absurd (show (nI 0) ≤ (nI 10) by first | rfl | decide +kernel) c)
      refine lv_aload_n hx hb dX7_bestRound_51 rfl (lv_at hl 0 rfl) ?_
      refine g_get hC V (ci := 7) uwX7 0 rfl rfl 7 (by decide) w_256 rfl rfl dX7_bestRound_52 ?_
      refine lv_aload_n hx hb dX7_bestRound_55 rfl (lv_at hl 0 rfl) ?_
      refine g_get hC V (ci := 7) uwX7 0 rfl rfl 0 (by decide) w_249 rfl rfl dX7_bestRound_56 ?_
      refine lv_iload_n hx hb dX7_bestRound_59 rfl (lv_at hl 1 rfl) ?_
      refine g_callV (wr := [(o, .inr (7, [.ref n0, .ref s0, .ref im, .ref iz, .ref rw, .ref t0, .ref u0, .ref h0, .ref y0, .null]))]) (nA := 2) hC V hl.1 (c_seekBest l D T h0 n0 len h1 h2 h3 n1 n2 n3 n4 n5 n6 n7 n8 n9 n10) w_656 w_657 w_658 w_6 w_659 (by decide +kernel) rfl ⟨(Nat.le_of_ble_eq_true rfl), (Nat.le_of_ble_eq_true rfl)⟩ 2 (ci := 3) rfl rfl [2, 3, 4, 1] [0] rfl rfl rfl rfl (by decide) (Nat.le_of_ble_eq_true rfl) dX7_bestRound_60 ⟨(Nat.le_of_ble_eq_true rfl), (Nat.le_of_ble_eq_true rfl)⟩ rfl (fun r w1 H locs hQ V => ?_)
      obtain ⟨g_5, rfl, rfl⟩ := hQ
      have V : gW D T A s [(o, .inr (7, [.ref n0, .ref s0, .ref im, .ref iz, .ref rw, .ref t0, .ref u0, .ref h0, .ref y0, .null])), (h0, .inr (3, [.ref h1, .int (nI 0), .int (nI 0), .int len, .ref h2, .ref h3])), (h1, .inl (T 0, 10, .inl g_5)), (h2, .inl (T 0, 10, .inl (fun _ => nI 0))), (n0, .inr (5, [.int (nI 0), .int (nI 0), .int (nI 0), .int (nI 20), .int (nI 0), .ref n1, .ref n2, .ref n3, .ref n4, .ref n5, .ref n6, .ref n7, .ref n8, .ref n9, .ref n10]))] H locs := V
      show W p l e _ s m args below meth c H locs _ _ _ (F0 m 63 ls [.int (nI 0)])
      refine lv_istore_n (lv' := [(3, .int (nI 0)), (0, .ref o), (1, .int len), (2, .int what)]) hx hb dX7_bestRound_63 rfl hl (by decide) rfl (fun ls hl => ?_)
      refine lv_iload_n hx hb dX7_bestRound_64 rfl (lv_at hl 3 rfl) ?_
      refine lv_if_eq (tgt := 73) hx hb dX7_bestRound_65 (by decide) (fun c_6 => ?_) (fun c_6 => ?_)
      · skip
        refine lv_iload_n hx hb dX7_bestRound_73 rfl (lv_at hl 0 rfl) ?_
        refine lv_goto (tgt := 89) hx hb dX7_bestRound_74 (by decide) ?_
        have V := V.sub (ws' := []) [] rfl rfl
        exact g_iret (Qr := (q_X7_bestRound T o len what n0 s0 im iz rw t0 u0 h0 y0 n1 n2 n3 n4 n5 n6 n7 n8 n9 n10 h1 h2 h3)) hC V ⟨(Nat.le_of_ble_eq_true rfl), (Nat.le_of_ble_eq_true rfl)⟩ ⟨(nI 0), rfl, rfl, (by first | exact pf_bestRound_1 ‹_› | exact pf_bestRound_2 ‹_› ‹_› | exact pf_bestRound_3 ‹_› ‹_› ‹_›)⟩ dX7_bestRound_89
      · skip
        exact (c_6 ‹_› : False).elim
    · have V : gW D T A s [(o, .inr (7, [.ref n0, .ref s0, .ref im, .ref iz, .ref rw, .ref t0, .ref u0, .ref h0, .ref y0, .null])), (n0, .inr (5, [.int (nI 0), .int (nI 0), .int (nI 0), .int (nI 20), .int (nI 0), .ref n1, .ref n2, .ref n3, .ref n4, .ref n5, .ref n6, .ref n7, .ref n8, .ref n9, .ref n10])), (h0, .inr (3, [.ref h1, .int (nI 0), .int (nI 0), .int (nI 0), .ref h2, .ref h3])), (h1, .inl (T 0, 10, .inl (fun _ => nI 0))), (h2, .inl (T 0, 10, .inl (fun _ => nI 0)))] H locs := V
      show W p l e _ s m args below meth c H locs _ _ _ (F0 m 28 ls [.int (nI 0)])
      refine lv_if_ne (tgt := 34) hx hb dX7_bestRound_28 (by decide) (fun c => absurd (show (nI 0) = 0 by decide +kernel) c) (fun _ => ?_)
      refine lv_bipush (v := (-3)) hx hb dX7_bestRound_31 (by decide +kernel) ?_
      have V := V.sub (ws' := []) [] rfl rfl
      exact g_iret (Qr := (q_X7_bestRound T o len what n0 s0 im iz rw t0 u0 h0 y0 n1 n2 n3 n4 n5 n6 n7 n8 n9 n10 h1 h2 h3)) hC V ⟨(Nat.le_of_ble_eq_true rfl), (Nat.le_of_ble_eq_true rfl)⟩ ⟨(-3), rfl, rfl, (by first | exact pf_bestRound_1 ‹_› | exact pf_bestRound_2 ‹_› ‹_› | exact pf_bestRound_3 ‹_› ‹_› ‹_›)⟩ dX7_bestRound_33
  · skip
    refine lv_aload_n hx hb dX7_bestRound_4 rfl (lv_at hl 0 rfl) ?_
    refine g_get hC V (ci := 7) uwX7 0 rfl rfl 0 (by decide) w_249 rfl rfl dX7_bestRound_5 ?_
    refine lv_iload_n hx hb dX7_bestRound_8 rfl (lv_at hl 2 rfl) ?_
    refine lv_bipush (v := (nI 10)) hx hb dX7_bestRound_9 (by decide +kernel) ?_
    refine lv_isub hx hb dX7_bestRound_11 ?_
    refine g_callV (wr := [(o, .inr (7, [.ref n0, .ref s0, .ref im, .ref iz, .ref rw, .ref t0, .ref u0, .ref h0, .ref y0, .null])), (h0, .inr (3, [.ref h1, .int (nI 0), .int (nI 0), .int (nI 0), .ref h2, .ref h3])), (h1, .inl (T 0, 10, .inl (fun _ => nI 0))), (h2, .inl (T 0, 10, .inl (fun _ => nI 0)))]) (nA := 1) hC V hl.1 (c_isSmith l D T n0 (what - (nI 10)) 0 n1 n2 n3 n4 n5 n6 n7 n8 n9 n10) w_425 w_426 w_427 w_3 w_428 (by decide +kernel) rfl ⟨(Nat.le_of_ble_eq_true rfl), (Nat.le_of_ble_eq_true rfl)⟩ 1 (ci := 5) rfl rfl [1] [0, 2, 3, 4] rfl rfl rfl rfl (by decide) (Nat.le_of_ble_eq_true rfl) dX7_bestRound_12 ⟨(Nat.le_of_ble_eq_true rfl), (Nat.le_of_ble_eq_true rfl)⟩ rfl (fun r w1 H locs hQ V => ?_)
    obtain ⟨rfl, rfl⟩ := hQ
    have V : gW D T A s [(o, .inr (7, [.ref n0, .ref s0, .ref im, .ref iz, .ref rw, .ref t0, .ref u0, .ref h0, .ref y0, .null])), (h0, .inr (3, [.ref h1, .int (nI 0), .int (nI 0), .int (nI 0), .ref h2, .ref h3])), (h1, .inl (T 0, 10, .inl (fun _ => nI 0))), (h2, .inl (T 0, 10, .inl (fun _ => nI 0))), (n0, .inr (5, [.int (nI 0), .int (nI 0), .int (nI 0), .int (nI 20), .int (nI 0), .ref n1, .ref n2, .ref n3, .ref n4, .ref n5, .ref n6, .ref n7, .ref n8, .ref n9, .ref n10]))] H locs := V
    show W p l e _ s m args below meth c H locs _ _ _ (F0 m 15 ls [.int (nI 0)])
    refine lv_if_ne (tgt := 21) hx hb dX7_bestRound_15 (by decide) (fun c => absurd (show (nI 0) = 0 by decide +kernel) c) (fun _ => ?_)
    refine lv_bipush (v := (-2)) hx hb dX7_bestRound_18 (by decide +kernel) ?_
    have V := V.sub (ws' := []) [] rfl rfl
    exact g_iret (Qr := (q_X7_bestRound T o len what n0 s0 im iz rw t0 u0 h0 y0 n1 n2 n3 n4 n5 n6 n7 n8 n9 n10 h1 h2 h3)) hC V ⟨(Nat.le_of_ble_eq_true rfl), (Nat.le_of_ble_eq_true rfl)⟩ ⟨(-2), rfl, rfl, (by first | exact pf_bestRound_1 ‹_› | exact pf_bestRound_2 ‹_› ‹_› | exact pf_bestRound_3 ‹_› ‹_› ‹_›)⟩ dX7_bestRound_20

def q_X7_peace (T : Nat → ClassId) (o : Nat) (what : Int32) (n0 : Nat) (s0 : Nat) (im : Nat) (iz : Nat) (rw : Nat) (t0 : Nat) (u0 : Nat) (h0 : Nat) (y0 : Nat) (n1 : Nat) (n2 : Nat) (n3 : Nat) (n4 : Nat) (n5 : Nat) (n6 : Nat) (n7 : Nat) (n8 : Nat) (n9 : Nat) (n10 : Nat) : Option Value → va_W → Prop := fun rr ww => (∃ (z : Int32), rr = some (.int z) ∧ ww = [] ∧ z = pf_peace what)
set_option maxHeartbeats 4000000 in
set_option maxRecDepth 100000 in
theorem p_X7_peace (l : Launch) (D : va_G) (T : Nat → ClassId) (o : Nat) (what : Int32) (n0 : Nat) (s0 : Nat) (im : Nat) (iz : Nat) (rw : Nat) (t0 : Nat) (u0 : Nat) (h0 : Nat) (y0 : Nat) (n1 : Nat) (n2 : Nat) (n3 : Nat) (n4 : Nat) (n5 : Nat) (n6 : Nat) (n7 : Nat) (n8 : Nat) (n9 : Nat) (n10 : Nat) : Ct l yX7_peace cX7_peace 6 (some .int) 2 0 0 D T [.ref o, .int what] [(o, .inr (7, [.ref n0, .ref s0, .ref im, .ref iz, .ref rw, .ref t0, .ref u0, .ref h0, .ref y0, .null])), (n0, .inr (5, [.int (nI 0), .int (nI 0), .int (nI 0), .int (nI 20), .int (nI 0), .ref n1, .ref n2, .ref n3, .ref n4, .ref n5, .ref n6, .ref n7, .ref n8, .ref n9, .ref n10]))] (q_X7_peace T o what n0 s0 im iz rw t0 u0 h0 y0 n1 n2 n3 n4 n5 n6 n7 n8 n9 n10) := by
  refine Ct.of (cc := cX7_peace) (maxL := 6) (ret := (some .int)) (by decide) (Nat.le_of_ble_eq_true rfl) ?_
  intro p e s m args below meth c A ls hC hnm V hl
  obtain ⟨hx, hb, hr, hml, hown, hts, hlocks⟩ := id hC
  generalize hH : s.heap = H at V ⊢
  clear hH
  have hl : lv_has ls 6 [(0, .ref o), (1, .int what)] := hl
  generalize hlo : ([] : List Loc) = locs at V ⊢
  clear hlo
  refine lv_iload_n hx hb dX7_peace_0 rfl (lv_at hl 1 rfl) ?_
  refine lv_iconst (v := (nI 0)) hx hb dX7_peace_1 (by decide +kernel) ?_
  refine lv_iconst (v := (nI 1)) hx hb dX7_peace_2 (by decide +kernel) ?_
  refine g_callS (wr := [(o, .inr (7, [.ref n0, .ref s0, .ref im, .ref iz, .ref rw, .ref t0, .ref u0, .ref h0, .ref y0, .null])), (n0, .inr (5, [.int (nI 0), .int (nI 0), .int (nI 0), .int (nI 20), .int (nI 0), .ref n1, .ref n2, .ref n3, .ref n4, .ref n5, .ref n6, .ref n7, .ref n8, .ref n9, .ref n10]))]) (nA := 3) hC V hl.1 (c_isWithin l D T what (nI 0) (nI 1)) w_292 w_293 w_2 w_294 (by decide +kernel) rfl ⟨(Nat.le_of_ble_eq_true rfl), (Nat.le_of_ble_eq_true rfl)⟩ [] [0, 1] rfl rfl rfl rfl (by decide) (Nat.le_of_ble_eq_true rfl) dX7_peace_3 ⟨(Nat.le_of_ble_eq_true rfl), (Nat.le_of_ble_eq_true rfl)⟩ rfl (fun r w1 H locs hQ V => ?_)
  rcases hQ with ⟨rfl, rfl, f_1, f_2⟩ | ⟨rfl, rfl, f_3⟩
  · have V : gW D T A s [(o, .inr (7, [.ref n0, .ref s0, .ref im, .ref iz, .ref rw, .ref t0, .ref u0, .ref h0, .ref y0, .null])), (n0, .inr (5, [.int (nI 0), .int (nI 0), .int (nI 0), .int (nI 20), .int (nI 0), .ref n1, .ref n2, .ref n3, .ref n4, .ref n5, .ref n6, .ref n7, .ref n8, .ref n9, .ref n10]))] H locs := V
    show W p l e _ s m args below meth c H locs _ _ _ (F0 m 6 ls [.int (nI 1)])
    refine lv_if_ne (tgt := 12) hx hb dX7_peace_6 (by decide) (fun _ => ?_) (fun c => absurd (show (nI 1) = 0 from c) (by decide +kernel))
    refine lv_iconst (v := (nI 0)) hx hb dX7_peace_12 (by decide +kernel) ?_
    refine lv_istore_n (lv' := [(2, .int (nI 0)), (0, .ref o), (1, .int what)]) hx hb dX7_peace_13 rfl hl (by decide) rfl (fun ls hl => ?_)
    refine lv_aload_n hx hb dX7_peace_14 rfl (lv_at hl 1 rfl) ?_
    refine g_get hC V (ci := 7) uwX7 0 rfl rfl 0 (by decide) w_249 rfl rfl dX7_peace_15 ?_
    refine lv_iconst (v := (nI 0)) hx hb dX7_peace_18 (by decide +kernel) ?_
    refine g_callV (wr := [(o, .inr (7, [.ref n0, .ref s0, .ref im, .ref iz, .ref rw, .ref t0, .ref u0, .ref h0, .ref y0, .null]))]) (nA := 1) hC V hl.1 (c_payTogether l D T n0 0 n1 n2 n3 n4 n5 n6 n7 n8 n9 n10) w_677 w_678 w_679 w_3 w_680 (by decide +kernel) rfl ⟨(Nat.le_of_ble_eq_true rfl), (Nat.le_of_ble_eq_true rfl)⟩ 1 (ci := 5) rfl rfl [1] [0] rfl rfl rfl rfl (by decide) (Nat.le_of_ble_eq_true rfl) dX7_peace_19 ⟨(Nat.le_of_ble_eq_true rfl), (Nat.le_of_ble_eq_true rfl)⟩ rfl (fun r w1 H locs hQ V => ?_)
    obtain ⟨rfl, rfl⟩ := hQ
    have V : gW D T A s [(o, .inr (7, [.ref n0, .ref s0, .ref im, .ref iz, .ref rw, .ref t0, .ref u0, .ref h0, .ref y0, .null])), (n0, .inr (5, [.int (nI 0), .int (nI 0), .int (nI 0), .int (nI 20), .int (nI 0), .ref n1, .ref n2, .ref n3, .ref n4, .ref n5, .ref n6, .ref n7, .ref n8, .ref n9, .ref n10]))] H locs := V
    show W p l e _ s m args below meth c H locs _ _ _ (F0 m 22 ls [.int (nI 0)])
    refine lv_istore_n (lv' := [(3, .int (nI 0)), (2, .int (nI 0)), (0, .ref o), (1, .int what)]) hx hb dX7_peace_22 rfl hl (by decide) rfl (fun ls hl => ?_)
    refine lv_iconst (v := (nI 1)) hx hb dX7_peace_23 (by decide +kernel) ?_
    refine lv_istore (lv' := [(4, .int (nI 1)), (3, .int (nI 0)), (2, .int (nI 0)), (0, .ref o), (1, .int what)]) hx hb dX7_peace_24 hl (by decide) rfl (fun ls hl => ?_)
    refine lv_iload hx hb dX7_peace_26 (lv_at hl 0 rfl) ?_
    refine lv_aload_n hx hb dX7_peace_28 rfl (lv_at hl 3 rfl) ?_
    refine g_get hC V (ci := 7) uwX7 0 rfl rfl 0 (by decide) w_249 rfl rfl dX7_peace_29 ?_
    refine g_callV (wr := [(o, .inr (7, [.ref n0, .ref s0, .ref im, .ref iz, .ref rw, .ref t0, .ref u0, .ref h0, .ref y0, .null]))]) (nA := 0) hC V hl.1 (c_everyone l D T n0 0 n1 n2 n3 n4 n5 n6 n7 n8 n9 n10) w_682 w_463 w_464 w_3 w_465 (by decide +kernel) rfl ⟨(Nat.le_of_ble_eq_true rfl), (Nat.le_of_ble_eq_true rfl)⟩ 1 (ci := 5) rfl rfl [1] [0] rfl rfl rfl rfl (by decide) (Nat.le_of_ble_eq_true rfl) dX7_peace_32 ⟨(Nat.le_of_ble_eq_true rfl), (Nat.le_of_ble_eq_true rfl)⟩ rfl (fun r w1 H locs hQ V => ?_)
    obtain ⟨rfl, rfl⟩ := hQ
    have V : gW D T A s [(o, .inr (7, [.ref n0, .ref s0, .ref im, .ref iz, .ref rw, .ref t0, .ref u0, .ref h0, .ref y0, .null])), (n0, .inr (5, [.int (nI 0), .int (nI 0), .int (nI 0), .int (nI 20), .int (nI 0), .ref n1, .ref n2, .ref n3, .ref n4, .ref n5, .ref n6, .ref n7, .ref n8, .ref n9, .ref n10]))] H locs := V
    show W p l e _ s m args below meth c H locs _ _ _ (F0 m 35 ls [.int (nI 0), .int (nI 1)])
    refine lv_icmp_gt (tgt := 67) hx hb dX7_peace_35 (by decide) (fun _ => ?_) (fun c => absurd (show (nI 0) < (nI 1) by first | rfl | decide +kernel) c)
    refine lv_iload_n hx hb dX7_peace_67 rfl (lv_at hl 4 rfl) ?_
    refine lv_if_ne (tgt := 75) hx hb dX7_peace_68 (by decide) (fun c_4 => ?_) (fun c_4 => ?_)
    · skip
      refine lv_iload_n hx hb dX7_peace_75 rfl (lv_at hl 2 rfl) ?_
      have V := V.sub (ws' := []) [] rfl rfl
      exact g_iret (Qr := (q_X7_peace T o what n0 s0 im iz rw t0 u0 h0 y0 n1 n2 n3 n4 n5 n6 n7 n8 n9 n10)) hC V ⟨(Nat.le_of_ble_eq_true rfl), (Nat.le_of_ble_eq_true rfl)⟩ ⟨(nI 0), rfl, rfl, (by first | exact pf_peace_1 ‹_› | exact pf_peace_2 ‹_› ‹_›)⟩ dX7_peace_76
    · skip
      refine lv_iload_n hx hb dX7_peace_71 rfl (lv_at hl 1 rfl) ?_
      refine lv_goto (tgt := 76) hx hb dX7_peace_72 (by decide) ?_
      have V := V.sub (ws' := []) [] rfl rfl
      exact g_iret (Qr := (q_X7_peace T o what n0 s0 im iz rw t0 u0 h0 y0 n1 n2 n3 n4 n5 n6 n7 n8 n9 n10)) hC V ⟨(Nat.le_of_ble_eq_true rfl), (Nat.le_of_ble_eq_true rfl)⟩ ⟨(nI 0), rfl, rfl, (by first | exact pf_peace_1 ‹_› | exact pf_peace_2 ‹_› ‹_›)⟩ dX7_peace_76
  · have V : gW D T A s [(o, .inr (7, [.ref n0, .ref s0, .ref im, .ref iz, .ref rw, .ref t0, .ref u0, .ref h0, .ref y0, .null])), (n0, .inr (5, [.int (nI 0), .int (nI 0), .int (nI 0), .int (nI 20), .int (nI 0), .ref n1, .ref n2, .ref n3, .ref n4, .ref n5, .ref n6, .ref n7, .ref n8, .ref n9, .ref n10]))] H locs := V
    show W p l e _ s m args below meth c H locs _ _ _ (F0 m 6 ls [.int (nI 0)])
    refine lv_if_ne (tgt := 12) hx hb dX7_peace_6 (by decide) (fun c => absurd (show (nI 0) = 0 by decide +kernel) c) (fun _ => ?_)
    refine lv_bipush (v := (-2)) hx hb dX7_peace_9 (by decide +kernel) ?_
    have V := V.sub (ws' := []) [] rfl rfl
    exact g_iret (Qr := (q_X7_peace T o what n0 s0 im iz rw t0 u0 h0 y0 n1 n2 n3 n4 n5 n6 n7 n8 n9 n10)) hC V ⟨(Nat.le_of_ble_eq_true rfl), (Nat.le_of_ble_eq_true rfl)⟩ ⟨(-2), rfl, rfl, (by first | exact pf_peace_1 ‹_› | exact pf_peace_2 ‹_› ‹_›)⟩ dX7_peace_11

def q_X7_selfish (T : Nat → ClassId) (o : Nat) (k : Int32) (n0 : Nat) (s0 : Nat) (im : Nat) (iz : Nat) (rw : Nat) (t0 : Nat) (u0 : Nat) (h0 : Nat) (y0 : Nat) (n1 : Nat) (n2 : Nat) (n3 : Nat) (n4 : Nat) (n5 : Nat) (n6 : Nat) (n7 : Nat) (n8 : Nat) (n9 : Nat) (n10 : Nat) : Option Value → va_W → Prop := fun rr ww => (∃ (z : Int32), rr = some (.int z) ∧ ww = [] ∧ z = pf_selfish k)
set_option maxHeartbeats 4000000 in
set_option maxRecDepth 100000 in
theorem p_X7_selfish (l : Launch) (D : va_G) (T : Nat → ClassId) (o : Nat) (k : Int32) (n0 : Nat) (s0 : Nat) (im : Nat) (iz : Nat) (rw : Nat) (t0 : Nat) (u0 : Nat) (h0 : Nat) (y0 : Nat) (n1 : Nat) (n2 : Nat) (n3 : Nat) (n4 : Nat) (n5 : Nat) (n6 : Nat) (n7 : Nat) (n8 : Nat) (n9 : Nat) (n10 : Nat) : Ct l yX7_selfish cX7_selfish 4 (some .int) 1 0 0 D T [.ref o, .int k] [(o, .inr (7, [.ref n0, .ref s0, .ref im, .ref iz, .ref rw, .ref t0, .ref u0, .ref h0, .ref y0, .null])), (n0, .inr (5, [.int (nI 0), .int (nI 0), .int (nI 0), .int (nI 20), .int (nI 0), .ref n1, .ref n2, .ref n3, .ref n4, .ref n5, .ref n6, .ref n7, .ref n8, .ref n9, .ref n10]))] (q_X7_selfish T o k n0 s0 im iz rw t0 u0 h0 y0 n1 n2 n3 n4 n5 n6 n7 n8 n9 n10) := by
  refine Ct.of (cc := cX7_selfish) (maxL := 4) (ret := (some .int)) (by decide) (Nat.le_of_ble_eq_true rfl) ?_
  intro p e s m args below meth c A ls hC hnm V hl
  obtain ⟨hx, hb, hr, hml, hown, hts, hlocks⟩ := id hC
  generalize hH : s.heap = H at V ⊢
  clear hH
  have hl : lv_has ls 4 [(0, .ref o), (1, .int k)] := hl
  generalize hlo : ([] : List Loc) = locs at V ⊢
  clear hlo
  refine lv_iload_n hx hb dX7_selfish_0 rfl (lv_at hl 1 rfl) ?_
  refine lv_iconst (v := (-1)) hx hb dX7_selfish_1 (by decide +kernel) ?_
  refine lv_icmp_ge (tgt := 7) hx hb dX7_selfish_2 (by decide) (fun c_1 => ?_) (fun c_1 => ?_)
  · skip
    refine lv_iconst (v := (nI 0)) hx hb dX7_selfish_7 (by decide +kernel) ?_
    refine lv_istore_n (lv' := [(2, .int (nI 0)), (0, .ref o), (1, .int k)]) hx hb dX7_selfish_8 rfl hl (by decide) rfl (fun ls hl => ?_)
    refine lv_iconst (v := (nI 0)) hx hb dX7_selfish_9 (by decide +kernel) ?_
    refine lv_istore_n (lv' := [(3, .int (nI 0)), (2, .int (nI 0)), (0, .ref o), (1, .int k)]) hx hb dX7_selfish_10 rfl hl (by decide) rfl (fun ls hl => ?_)
    refine lv_iload_n hx hb dX7_selfish_11 rfl (lv_at hl 0 rfl) ?_
    refine lv_aload_n hx hb dX7_selfish_12 rfl (lv_at hl 2 rfl) ?_
    refine g_get hC V (ci := 7) uwX7 0 rfl rfl 0 (by decide) w_249 rfl rfl dX7_selfish_13 ?_
    refine g_callV (wr := [(o, .inr (7, [.ref n0, .ref s0, .ref im, .ref iz, .ref rw, .ref t0, .ref u0, .ref h0, .ref y0, .null]))]) (nA := 0) hC V hl.1 (c_everyone l D T n0 0 n1 n2 n3 n4 n5 n6 n7 n8 n9 n10) w_682 w_463 w_464 w_3 w_465 (by decide +kernel) rfl ⟨(Nat.le_of_ble_eq_true rfl), (Nat.le_of_ble_eq_true rfl)⟩ 1 (ci := 5) rfl rfl [1] [0] rfl rfl rfl rfl (by decide) (Nat.le_of_ble_eq_true rfl) dX7_selfish_16 ⟨(Nat.le_of_ble_eq_true rfl), (Nat.le_of_ble_eq_true rfl)⟩ rfl (fun r w1 H locs hQ V => ?_)
    obtain ⟨rfl, rfl⟩ := hQ
    have V : gW D T A s [(o, .inr (7, [.ref n0, .ref s0, .ref im, .ref iz, .ref rw, .ref t0, .ref u0, .ref h0, .ref y0, .null])), (n0, .inr (5, [.int (nI 0), .int (nI 0), .int (nI 0), .int (nI 20), .int (nI 0), .ref n1, .ref n2, .ref n3, .ref n4, .ref n5, .ref n6, .ref n7, .ref n8, .ref n9, .ref n10]))] H locs := V
    show W p l e _ s m args below meth c H locs _ _ _ (F0 m 19 ls [.int (nI 0), .int (nI 0)])
    refine lv_icmp_gt (tgt := 49) hx hb dX7_selfish_19 (by decide) (fun c => absurd (show (nI 0) < (nI 0) from c) (by decide +kernel)) (fun _ => ?_)
    refine lv_aload_n hx hb dX7_selfish_22 rfl (lv_at hl 2 rfl) ?_
    refine g_get hC V (ci := 7) uwX7 0 rfl rfl 0 (by decide) w_249 rfl rfl dX7_selfish_23 ?_
    refine lv_iload_n hx hb dX7_selfish_26 rfl (lv_at hl 0 rfl) ?_
    refine g_callV (wr := [(o, .inr (7, [.ref n0, .ref s0, .ref im, .ref iz, .ref rw, .ref t0, .ref u0, .ref h0, .ref y0, .null]))]) (nA := 1) hC V hl.1 (c_isSelfish l D T n0 (nI 0) 0 n1 n2 n3 n4 n5 n6 n7 n8 n9 n10) w_687 w_688 w_689 w_3 w_690 (by decide +kernel) rfl ⟨(Nat.le_of_ble_eq_true rfl), (Nat.le_of_ble_eq_true rfl)⟩ 1 (ci := 5) rfl rfl [1] [0] rfl rfl rfl rfl (by decide) (Nat.le_of_ble_eq_true rfl) dX7_selfish_27 ⟨(Nat.le_of_ble_eq_true rfl), (Nat.le_of_ble_eq_true rfl)⟩ rfl (fun r w1 H locs hQ V => ?_)
    obtain ⟨rfl, rfl⟩ := hQ
    have V : gW D T A s [(o, .inr (7, [.ref n0, .ref s0, .ref im, .ref iz, .ref rw, .ref t0, .ref u0, .ref h0, .ref y0, .null])), (n0, .inr (5, [.int (nI 0), .int (nI 0), .int (nI 0), .int (nI 20), .int (nI 0), .ref n1, .ref n2, .ref n3, .ref n4, .ref n5, .ref n6, .ref n7, .ref n8, .ref n9, .ref n10]))] H locs := V
    show W p l e _ s m args below meth c H locs _ _ _ (F0 m 30 ls [.int (nI 1)])
    refine lv_if_eq (tgt := 43) hx hb dX7_selfish_30 (by decide) (fun c => absurd (show (nI 1) = 0 from c) (by decide +kernel)) (fun _ => ?_)
    refine lv_iload_n hx hb dX7_selfish_33 rfl (lv_at hl 1 rfl) ?_
    refine lv_iload_n hx hb dX7_selfish_34 rfl (lv_at hl 3 rfl) ?_
    refine lv_icmp_ne (tgt := 40) hx hb dX7_selfish_35 (by decide) (fun c_2 => ?_) (fun c_2 => ?_)
    · skip
      have hs2 : ¬ k = nI 0 := fun h => c_2 h.symm
      refine lv_iinc (v := (nI 1)) (lv' := [(2, .int (nI 1)), (3, .int (nI 0)), (0, .ref o), (1, .int k)]) hx hb dX7_selfish_40 hl (k := 1) rfl (by decide +kernel) (by decide) rfl (fun ls hl => ?_)
      refine lv_iinc (v := (nI 1)) (lv' := [(3, .int (nI 1)), (2, .int (nI 1)), (0, .ref o), (1, .int k)]) hx hb dX7_selfish_43 hl (k := 1) rfl (by decide +kernel) (by decide) rfl (fun ls hl => ?_)
      refine lv_goto (tgt := 11) hx hb dX7_selfish_46 (by decide) ?_
      refine lv_iload_n hx hb dX7_selfish_11 rfl (lv_at hl 0 rfl) ?_
      refine lv_aload_n hx hb dX7_selfish_12 rfl (lv_at hl 2 rfl) ?_
      refine g_get hC V (ci := 7) uwX7 0 rfl rfl 0 (by decide) w_249 rfl rfl dX7_selfish_13 ?_
      refine g_callV (wr := [(o, .inr (7, [.ref n0, .ref s0, .ref im, .ref iz, .ref rw, .ref t0, .ref u0, .ref h0, .ref y0, .null]))]) (nA := 0) hC V hl.1 (c_everyone l D T n0 0 n1 n2 n3 n4 n5 n6 n7 n8 n9 n10) w_682 w_463 w_464 w_3 w_465 (by decide +kernel) rfl ⟨(Nat.le_of_ble_eq_true rfl), (Nat.le_of_ble_eq_true rfl)⟩ 1 (ci := 5) rfl rfl [1] [0] rfl rfl rfl rfl (by decide) (Nat.le_of_ble_eq_true rfl) dX7_selfish_16 ⟨(Nat.le_of_ble_eq_true rfl), (Nat.le_of_ble_eq_true rfl)⟩ rfl (fun r w1 H locs hQ V => ?_)
      obtain ⟨rfl, rfl⟩ := hQ
      have V : gW D T A s [(o, .inr (7, [.ref n0, .ref s0, .ref im, .ref iz, .ref rw, .ref t0, .ref u0, .ref h0, .ref y0, .null])), (n0, .inr (5, [.int (nI 0), .int (nI 0), .int (nI 0), .int (nI 20), .int (nI 0), .ref n1, .ref n2, .ref n3, .ref n4, .ref n5, .ref n6, .ref n7, .ref n8, .ref n9, .ref n10]))] H locs := V
      show W p l e _ s m args below meth c H locs _ _ _ (F0 m 19 ls [.int (nI 0), .int (nI 1)])
      refine lv_icmp_gt (tgt := 49) hx hb dX7_selfish_19 (by decide) (fun _ => ?_) (fun c => absurd (show (nI 0) < (nI 1) by first | rfl | decide +kernel) c)
      refine lv_iload_n hx hb dX7_selfish_49 rfl (lv_at hl 3 rfl) ?_
      refine lv_iconst (v := (-1)) hx hb dX7_selfish_50 (by decide +kernel) ?_
      refine lv_icmp_ne (tgt := 58) hx hb dX7_selfish_51 (by decide) (fun c_3 => ?_) (fun c_3 => ?_)
      · skip
        refine lv_iconst (v := (-1)) hx hb dX7_selfish_58 (by decide +kernel) ?_
        have V := V.sub (ws' := []) [] rfl rfl
        exact g_iret (Qr := (q_X7_selfish T o k n0 s0 im iz rw t0 u0 h0 y0 n1 n2 n3 n4 n5 n6 n7 n8 n9 n10)) hC V ⟨(Nat.le_of_ble_eq_true rfl), (Nat.le_of_ble_eq_true rfl)⟩ ⟨(-1), rfl, rfl, (by first | exact pf_selfish_1 ‹_› | exact pf_selfish_2 ‹_› ‹_› | exact pf_selfish_3 ‹_› ‹_›)⟩ dX7_selfish_59
      · skip
        refine lv_iload_n hx hb dX7_selfish_54 rfl (lv_at hl 1 rfl) ?_
        refine lv_goto (tgt := 59) hx hb dX7_selfish_55 (by decide) ?_
        have V := V.sub (ws' := []) [] rfl rfl
        exact g_iret (Qr := (q_X7_selfish T o k n0 s0 im iz rw t0 u0 h0 y0 n1 n2 n3 n4 n5 n6 n7 n8 n9 n10)) hC V ⟨(Nat.le_of_ble_eq_true rfl), (Nat.le_of_ble_eq_true rfl)⟩ ⟨(nI 1), rfl, rfl, (by first | exact pf_selfish_1 ‹_› | exact pf_selfish_2 ‹_› ‹_› | exact pf_selfish_3 ‹_› ‹_›)⟩ dX7_selfish_59
    · skip
      have hs2 : k = nI 0 := c_2.symm
      have hs1 : ¬ k = -1 := by rw [← c_2]; decide +kernel
      refine lv_iload_n hx hb dX7_selfish_38 rfl (lv_at hl 0 rfl) ?_
      have V := V.sub (ws' := []) [] rfl rfl
      exact g_iret (Qr := (q_X7_selfish T o k n0 s0 im iz rw t0 u0 h0 y0 n1 n2 n3 n4 n5 n6 n7 n8 n9 n10)) hC V ⟨(Nat.le_of_ble_eq_true rfl), (Nat.le_of_ble_eq_true rfl)⟩ ⟨(nI 0), rfl, rfl, (by first | exact pf_selfish_1 ‹_› | exact pf_selfish_2 ‹_› ‹_› | exact pf_selfish_3 ‹_› ‹_›)⟩ dX7_selfish_39
  · skip
    have hs1 : ¬ k = -1 := fun h => c_1 (by rw [h]; decide +kernel)
    have hs2 : ¬ k = nI 0 := fun h => c_1 (by rw [h]; decide +kernel)
    refine lv_iconst (v := (-1)) hx hb dX7_selfish_5 (by decide +kernel) ?_
    have V := V.sub (ws' := []) [] rfl rfl
    exact g_iret (Qr := (q_X7_selfish T o k n0 s0 im iz rw t0 u0 h0 y0 n1 n2 n3 n4 n5 n6 n7 n8 n9 n10)) hC V ⟨(Nat.le_of_ble_eq_true rfl), (Nat.le_of_ble_eq_true rfl)⟩ ⟨(-1), rfl, rfl, (by first | exact pf_selfish_1 ‹_› | exact pf_selfish_2 ‹_› ‹_› | exact pf_selfish_3 ‹_› ‹_›)⟩ dX7_selfish_6

def q_X7_soonest (T : Nat → ClassId) (o : Nat) (n0 : Nat) (s0 : Nat) (im : Nat) (iz : Nat) (rw : Nat) (t0 : Nat) (u0 : Nat) (h0 : Nat) (y0 : Nat) (n1 : Nat) (n2 : Nat) (n3 : Nat) (n4 : Nat) (n5 : Nat) (n6 : Nat) (n7 : Nat) (n8 : Nat) (n9 : Nat) (n10 : Nat) : Option Value → va_W → Prop := fun rr ww => (∃ (z : Int32), rr = some (.int z) ∧ ww = [] ∧ z = nI 0)
set_option maxHeartbeats 4000000 in
set_option maxRecDepth 100000 in
theorem p_X7_soonest (l : Launch) (D : va_G) (T : Nat → ClassId) (o : Nat) (n0 : Nat) (s0 : Nat) (im : Nat) (iz : Nat) (rw : Nat) (t0 : Nat) (u0 : Nat) (h0 : Nat) (y0 : Nat) (n1 : Nat) (n2 : Nat) (n3 : Nat) (n4 : Nat) (n5 : Nat) (n6 : Nat) (n7 : Nat) (n8 : Nat) (n9 : Nat) (n10 : Nat) : Ct l yX7_soonest cX7_soonest 1 (some .int) 1 0 0 D T [.ref o] [(o, .inr (7, [.ref n0, .ref s0, .ref im, .ref iz, .ref rw, .ref t0, .ref u0, .ref h0, .ref y0, .null])), (n0, .inr (5, [.int (nI 0), .int (nI 0), .int (nI 0), .int (nI 20), .int (nI 0), .ref n1, .ref n2, .ref n3, .ref n4, .ref n5, .ref n6, .ref n7, .ref n8, .ref n9, .ref n10]))] (q_X7_soonest T o n0 s0 im iz rw t0 u0 h0 y0 n1 n2 n3 n4 n5 n6 n7 n8 n9 n10) := by
  refine Ct.of (cc := cX7_soonest) (maxL := 1) (ret := (some .int)) (by decide) (Nat.le_of_ble_eq_true rfl) ?_
  intro p e s m args below meth c A ls hC hnm V hl
  obtain ⟨hx, hb, hr, hml, hown, hts, hlocks⟩ := id hC
  generalize hH : s.heap = H at V ⊢
  clear hH
  have hl : lv_has ls 1 [(0, .ref o)] := hl
  generalize hlo : ([] : List Loc) = locs at V ⊢
  clear hlo
  refine lv_aload_n hx hb dX7_soonest_0 rfl (lv_at hl 0 rfl) ?_
  refine g_get hC V (ci := 7) uwX7 0 rfl rfl 0 (by decide) w_249 rfl rfl dX7_soonest_1 ?_
  refine g_get hC V (ci := 5) uwX5 1 rfl rfl 0 (by decide) w_38 rfl rfl dX7_soonest_4 ?_
  refine lv_iconst (v := (nI 3)) hx hb dX7_soonest_7 (by decide +kernel) ?_
  refine lv_icmp_le (tgt := 14) hx hb dX7_soonest_8 (by decide) (fun _ => ?_) (fun c => absurd (show (nI 0) ≤ (nI 3) by first | rfl | decide +kernel) c)
  refine lv_aload_n hx hb dX7_soonest_14 rfl (lv_at hl 0 rfl) ?_
  refine g_get hC V (ci := 7) uwX7 0 rfl rfl 0 (by decide) w_249 rfl rfl dX7_soonest_15 ?_
  refine g_callV (wr := [(o, .inr (7, [.ref n0, .ref s0, .ref im, .ref iz, .ref rw, .ref t0, .ref u0, .ref h0, .ref y0, .null]))]) (nA := 0) hC V hl.1 (c_piecesDone l D T n0 0 n1 n2 n3 n4 n5 n6 n7 n8 n9 n10) w_516 w_517 w_518 w_3 w_519 (by decide +kernel) rfl ⟨(Nat.le_of_ble_eq_true rfl), (Nat.le_of_ble_eq_true rfl)⟩ 1 (ci := 5) rfl rfl [1] [0] rfl rfl rfl rfl (by decide) (Nat.le_of_ble_eq_true rfl) dX7_soonest_18 ⟨(Nat.le_of_ble_eq_true rfl), (Nat.le_of_ble_eq_true rfl)⟩ rfl (fun r w1 H locs hQ V => ?_)
  obtain ⟨rfl, rfl⟩ := hQ
  have V : gW D T A s [(o, .inr (7, [.ref n0, .ref s0, .ref im, .ref iz, .ref rw, .ref t0, .ref u0, .ref h0, .ref y0, .null])), (n0, .inr (5, [.int (nI 0), .int (nI 0), .int (nI 0), .int (nI 20), .int (nI 0), .ref n1, .ref n2, .ref n3, .ref n4, .ref n5, .ref n6, .ref n7, .ref n8, .ref n9, .ref n10]))] H locs := V
  show W p l e _ s m args below meth c H locs _ _ _ (F0 m 21 ls [.int (nI 0)])
  refine lv_aload_n hx hb dX7_soonest_21 rfl (lv_at hl 0 rfl) ?_
  refine g_get hC V (ci := 7) uwX7 0 rfl rfl 0 (by decide) w_249 rfl rfl dX7_soonest_22 ?_
  refine g_get hC V (ci := 5) uwX5 1 rfl rfl 0 (by decide) w_38 rfl rfl dX7_soonest_25 ?_
  refine lv_icmp_ne (tgt := 33) hx hb dX7_soonest_28 (by decide) (fun c => absurd (show (nI 0) = (nI 0) by first | rfl | decide +kernel) c) (fun _ => ?_)
  refine lv_iconst (v := (nI 0)) hx hb dX7_soonest_31 (by decide +kernel) ?_
  have V := V.sub (ws' := []) [] rfl rfl
  exact g_iret (Qr := (q_X7_soonest T o n0 s0 im iz rw t0 u0 h0 y0 n1 n2 n3 n4 n5 n6 n7 n8 n9 n10)) hC V ⟨(Nat.le_of_ble_eq_true rfl), (Nat.le_of_ble_eq_true rfl)⟩ ⟨(nI 0), rfl, rfl, rfl⟩ dX7_soonest_32

def q_X7_ropes (T : Nat → ClassId) (o : Nat) (what : Int32) (n0 : Nat) (s0 : Nat) (im : Nat) (iz : Nat) (rw : Nat) (t0 : Nat) (u0 : Nat) (h0 : Nat) (y0 : Nat) (n1 : Nat) (n2 : Nat) (n3 : Nat) (n4 : Nat) (n5 : Nat) (n6 : Nat) (n7 : Nat) (n8 : Nat) (n9 : Nat) (n10 : Nat) : Option Value → va_W → Prop := fun rr ww => (∃ (z : Int32), rr = some (.int z) ∧ ww = [] ∧ z = pf_ropes what)
set_option maxHeartbeats 4000000 in
set_option maxRecDepth 100000 in
theorem p_X7_ropes (l : Launch) (D : va_G) (T : Nat → ClassId) (o : Nat) (what : Int32) (n0 : Nat) (s0 : Nat) (im : Nat) (iz : Nat) (rw : Nat) (t0 : Nat) (u0 : Nat) (h0 : Nat) (y0 : Nat) (n1 : Nat) (n2 : Nat) (n3 : Nat) (n4 : Nat) (n5 : Nat) (n6 : Nat) (n7 : Nat) (n8 : Nat) (n9 : Nat) (n10 : Nat) : Ct l yX7_ropes cX7_ropes 2 (some .int) 1 0 0 D T [.ref o, .int what] [(o, .inr (7, [.ref n0, .ref s0, .ref im, .ref iz, .ref rw, .ref t0, .ref u0, .ref h0, .ref y0, .null])), (n0, .inr (5, [.int (nI 0), .int (nI 0), .int (nI 0), .int (nI 20), .int (nI 0), .ref n1, .ref n2, .ref n3, .ref n4, .ref n5, .ref n6, .ref n7, .ref n8, .ref n9, .ref n10]))] (q_X7_ropes T o what n0 s0 im iz rw t0 u0 h0 y0 n1 n2 n3 n4 n5 n6 n7 n8 n9 n10) := by
  refine Ct.of (cc := cX7_ropes) (maxL := 2) (ret := (some .int)) (by decide) (Nat.le_of_ble_eq_true rfl) ?_
  intro p e s m args below meth c A ls hC hnm V hl
  obtain ⟨hx, hb, hr, hml, hown, hts, hlocks⟩ := id hC
  generalize hH : s.heap = H at V ⊢
  clear hH
  have hl : lv_has ls 2 [(0, .ref o), (1, .int what)] := hl
  generalize hlo : ([] : List Loc) = locs at V ⊢
  clear hlo
  refine lv_iload_n hx hb dX7_ropes_0 rfl (lv_at hl 1 rfl) ?_
  refine lv_if_eq (tgt := 21) hx hb dX7_ropes_1 (by decide) (fun c_1 => ?_) (fun c_1 => ?_)
  · skip
    refine lv_aload_n hx hb dX7_ropes_21 rfl (lv_at hl 0 rfl) ?_
    refine g_get hC V (ci := 7) uwX7 0 rfl rfl 0 (by decide) w_249 rfl rfl dX7_ropes_22 ?_
    refine g_get hC V (ci := 5) uwX5 1 rfl rfl 0 (by decide) w_38 rfl rfl dX7_ropes_25 ?_
    refine lv_bipush (v := (nI 7)) hx hb dX7_ropes_28 (by decide +kernel) ?_
    refine lv_icmp_le (tgt := 36) hx hb dX7_ropes_30 (by decide) (fun _ => ?_) (fun c => absurd (show (nI 0) ≤ (nI 7) by first | rfl | decide +kernel) c)
    refine lv_aload_n hx hb dX7_ropes_36 rfl (lv_at hl 0 rfl) ?_
    refine g_get hC V (ci := 7) uwX7 0 rfl rfl 0 (by decide) w_249 rfl rfl dX7_ropes_37 ?_
    refine g_get hC V (ci := 5) uwX5 1 rfl rfl 0 (by decide) w_38 rfl rfl dX7_ropes_40 ?_
    refine lv_if_ne (tgt := 49) hx hb dX7_ropes_43 (by decide) (fun c => absurd (show (nI 0) = 0 by decide +kernel) c) (fun _ => ?_)
    refine lv_bipush (v := (-5)) hx hb dX7_ropes_46 (by decide +kernel) ?_
    have V := V.sub (ws' := []) [] rfl rfl
    exact g_iret (Qr := (q_X7_ropes T o what n0 s0 im iz rw t0 u0 h0 y0 n1 n2 n3 n4 n5 n6 n7 n8 n9 n10)) hC V ⟨(Nat.le_of_ble_eq_true rfl), (Nat.le_of_ble_eq_true rfl)⟩ ⟨(-5), rfl, rfl, (by first | exact pf_ropes_1 ‹_› | exact pf_ropes_2 ‹_›)⟩ dX7_ropes_48
  · skip
    refine lv_aload_n hx hb dX7_ropes_4 rfl (lv_at hl 0 rfl) ?_
    refine g_get hC V (ci := 7) uwX7 0 rfl rfl 0 (by decide) w_249 rfl rfl dX7_ropes_5 ?_
    refine lv_iload_n hx hb dX7_ropes_8 rfl (lv_at hl 1 rfl) ?_
    refine lv_bipush (v := (nI 10)) hx hb dX7_ropes_9 (by decide +kernel) ?_
    refine lv_isub hx hb dX7_ropes_11 ?_
    refine g_callV (wr := [(o, .inr (7, [.ref n0, .ref s0, .ref im, .ref iz, .ref rw, .ref t0, .ref u0, .ref h0, .ref y0, .null]))]) (nA := 1) hC V hl.1 (c_isSmith l D T n0 (what - (nI 10)) 0 n1 n2 n3 n4 n5 n6 n7 n8 n9 n10) w_425 w_426 w_427 w_3 w_428 (by decide +kernel) rfl ⟨(Nat.le_of_ble_eq_true rfl), (Nat.le_of_ble_eq_true rfl)⟩ 1 (ci := 5) rfl rfl [1] [0] rfl rfl rfl rfl (by decide) (Nat.le_of_ble_eq_true rfl) dX7_ropes_12 ⟨(Nat.le_of_ble_eq_true rfl), (Nat.le_of_ble_eq_true rfl)⟩ rfl (fun r w1 H locs hQ V => ?_)
    obtain ⟨rfl, rfl⟩ := hQ
    have V : gW D T A s [(o, .inr (7, [.ref n0, .ref s0, .ref im, .ref iz, .ref rw, .ref t0, .ref u0, .ref h0, .ref y0, .null])), (n0, .inr (5, [.int (nI 0), .int (nI 0), .int (nI 0), .int (nI 20), .int (nI 0), .ref n1, .ref n2, .ref n3, .ref n4, .ref n5, .ref n6, .ref n7, .ref n8, .ref n9, .ref n10]))] H locs := V
    show W p l e _ s m args below meth c H locs _ _ _ (F0 m 15 ls [.int (nI 0)])
    refine lv_if_ne (tgt := 21) hx hb dX7_ropes_15 (by decide) (fun c => absurd (show (nI 0) = 0 by decide +kernel) c) (fun _ => ?_)
    refine lv_bipush (v := (-2)) hx hb dX7_ropes_18 (by decide +kernel) ?_
    have V := V.sub (ws' := []) [] rfl rfl
    exact g_iret (Qr := (q_X7_ropes T o what n0 s0 im iz rw t0 u0 h0 y0 n1 n2 n3 n4 n5 n6 n7 n8 n9 n10)) hC V ⟨(Nat.le_of_ble_eq_true rfl), (Nat.le_of_ble_eq_true rfl)⟩ ⟨(-2), rfl, rfl, (by first | exact pf_ropes_1 ‹_› | exact pf_ropes_2 ‹_›)⟩ dX7_ropes_20

def q_X7_bestPlace (T : Nat → ClassId) (o : Nat) (bl : Int32) (n : Int32) (n0 : Nat) (s0 : Nat) (im : Nat) (iz : Nat) (rw : Nat) (t0 : Nat) (u0 : Nat) (h0 : Nat) (y0 : Nat) (n1 : Nat) (n2 : Nat) (n3 : Nat) (n4 : Nat) (n5 : Nat) (n6 : Nat) (n7 : Nat) (n8 : Nat) (n9 : Nat) (n10 : Nat) : Option Value → va_W → Prop := fun rr ww => (∃ (z : Int32), rr = some (.int z) ∧ ww = [] ∧ z = -1)
set_option maxHeartbeats 4000000 in
set_option maxRecDepth 100000 in
theorem p_X7_bestPlace (l : Launch) (D : va_G) (T : Nat → ClassId) (o : Nat) (bl : Int32) (n : Int32) (n0 : Nat) (s0 : Nat) (im : Nat) (iz : Nat) (rw : Nat) (t0 : Nat) (u0 : Nat) (h0 : Nat) (y0 : Nat) (n1 : Nat) (n2 : Nat) (n3 : Nat) (n4 : Nat) (n5 : Nat) (n6 : Nat) (n7 : Nat) (n8 : Nat) (n9 : Nat) (n10 : Nat) : Ct l yX7_bestPlace cX7_bestPlace 8 (some .int) 0 0 0 D T [.ref o, .int bl, .int n] [(o, .inr (7, [.ref n0, .ref s0, .ref im, .ref iz, .ref rw, .ref t0, .ref u0, .ref h0, .ref y0, .null])), (n0, .inr (5, [.int (nI 0), .int (nI 0), .int (nI 0), .int (nI 20), .int (nI 0), .ref n1, .ref n2, .ref n3, .ref n4, .ref n5, .ref n6, .ref n7, .ref n8, .ref n9, .ref n10]))] (q_X7_bestPlace T o bl n n0 s0 im iz rw t0 u0 h0 y0 n1 n2 n3 n4 n5 n6 n7 n8 n9 n10) := by
  refine Ct.of (cc := cX7_bestPlace) (maxL := 8) (ret := (some .int)) (by decide) (Nat.le_of_ble_eq_true rfl) ?_
  intro p e s m args below meth c A ls hC hnm V hl
  obtain ⟨hx, hb, hr, hml, hown, hts, hlocks⟩ := id hC
  generalize hH : s.heap = H at V ⊢
  clear hH
  have hl : lv_has ls 8 [(0, .ref o), (1, .int bl), (2, .int n)] := hl
  generalize hlo : ([] : List Loc) = locs at V ⊢
  clear hlo
  refine lv_aload_n hx hb dX7_bestPlace_0 rfl (lv_at hl 0 rfl) ?_
  refine g_get hC V (ci := 7) uwX7 0 rfl rfl 0 (by decide) w_249 rfl rfl dX7_bestPlace_1 ?_
  refine g_get hC V (ci := 5) uwX5 1 rfl rfl 0 (by decide) w_38 rfl rfl dX7_bestPlace_4 ?_
  refine lv_if_ne (tgt := 12) hx hb dX7_bestPlace_7 (by decide) (fun c => absurd (show (nI 0) = 0 by decide +kernel) c) (fun _ => ?_)
  refine lv_iconst (v := (-1)) hx hb dX7_bestPlace_10 (by decide +kernel) ?_
  have V := V.sub (ws' := []) [] rfl rfl
  exact g_iret (Qr := (q_X7_bestPlace T o bl n n0 s0 im iz rw t0 u0 h0 y0 n1 n2 n3 n4 n5 n6 n7 n8 n9 n10)) hC V ⟨(Nat.le_of_ble_eq_true rfl), (Nat.le_of_ble_eq_true rfl)⟩ ⟨(-1), rfl, rfl, rfl⟩ dX7_bestPlace_11

def q_X7_swapped (T : Nat → ClassId) (o : Nat) (n : Int32) (what : Int32) (n0 : Nat) (s0 : Nat) (im : Nat) (iz : Nat) (rw : Nat) (t0 : Nat) (u0 : Nat) (h0 : Nat) (y0 : Nat) (n1 : Nat) (n2 : Nat) (n3 : Nat) (n4 : Nat) (n5 : Nat) (n6 : Nat) (n7 : Nat) (n8 : Nat) (n9 : Nat) (n10 : Nat) (s1 : Nat) (s2 : Nat) (s3 : Nat) (s4 : Nat) (s5 : Nat) (s6 : Nat) (s7 : Nat) (s8 : Nat) (s9 : Nat) (s10 : Nat) : Option Value → va_W → Prop := fun rr ww => (∃ (z : Int32), rr = some (.int z) ∧ ww = [] ∧ z = pf_swapped n what)
set_option maxHeartbeats 4000000 in
set_option maxRecDepth 100000 in
theorem p_X7_swapped (l : Launch) (D : va_G) (T : Nat → ClassId) (o : Nat) (n : Int32) (what : Int32) (n0 : Nat) (s0 : Nat) (im : Nat) (iz : Nat) (rw : Nat) (t0 : Nat) (u0 : Nat) (h0 : Nat) (y0 : Nat) (n1 : Nat) (n2 : Nat) (n3 : Nat) (n4 : Nat) (n5 : Nat) (n6 : Nat) (n7 : Nat) (n8 : Nat) (n9 : Nat) (n10 : Nat) (s1 : Nat) (s2 : Nat) (s3 : Nat) (s4 : Nat) (s5 : Nat) (s6 : Nat) (s7 : Nat) (s8 : Nat) (s9 : Nat) (s10 : Nat) : Ct l yX7_swapped cX7_swapped 10 (some .int) 5 0 0 D T [.ref o, .int n, .int what] [(o, .inr (7, [.ref n0, .ref s0, .ref im, .ref iz, .ref rw, .ref t0, .ref u0, .ref h0, .ref y0, .null])), (n0, .inr (5, [.int (nI 0), .int (nI 0), .int (nI 0), .int (nI 20), .int (nI 0), .ref n1, .ref n2, .ref n3, .ref n4, .ref n5, .ref n6, .ref n7, .ref n8, .ref n9, .ref n10])), (n1, .inl (T 0, 10, .inl (fun _ => nI 0))), (n2, .inl (T 0, 10, .inl (fun _ => nI 0))), (n3, .inl (T 0, 10, .inl (fun _ => nI 0))), (n4, .inl (T 0, 10, .inl (fun _ => nI 0))), (n5, .inl (T 0, 10, .inl (fun _ => nI 0))), (n6, .inl (T 0, 10, .inl (fun _ => nI 0))), (n7, .inl (T 0, 10, .inl (fun _ => nI 0))), (n8, .inl (T 0, 10, .inl (fun _ => nI 0))), (n9, .inl (T 0, 10, .inl (fun _ => nI 0))), (n10, .inl (T 0, 10, .inl (fun _ => nI 0))), (s0, .inr (5, [.int (nI 0), .int (nI 0), .int (nI 0), .int (nI 20), .int (nI 0), .ref s1, .ref s2, .ref s3, .ref s4, .ref s5, .ref s6, .ref s7, .ref s8, .ref s9, .ref s10])), (s1, .inl (T 0, 10, .inl (fun _ => nI 0))), (s2, .inl (T 0, 10, .inl (fun _ => nI 0))), (s3, .inl (T 0, 10, .inl (fun _ => nI 0))), (s4, .inl (T 0, 10, .inl (fun _ => nI 0))), (s5, .inl (T 0, 10, .inl (fun _ => nI 0))), (s6, .inl (T 0, 10, .inl (fun _ => nI 0))), (s7, .inl (T 0, 10, .inl (fun _ => nI 0))), (s8, .inl (T 0, 10, .inl (fun _ => nI 0))), (s9, .inl (T 0, 10, .inl (fun _ => nI 0))), (s10, .inl (T 0, 10, .inl (fun _ => nI 0)))] (q_X7_swapped T o n what n0 s0 im iz rw t0 u0 h0 y0 n1 n2 n3 n4 n5 n6 n7 n8 n9 n10 s1 s2 s3 s4 s5 s6 s7 s8 s9 s10) := by
  refine Ct.of (cc := cX7_swapped) (maxL := 10) (ret := (some .int)) (by decide) (Nat.le_of_ble_eq_true rfl) ?_
  intro p e s m args below meth c A ls hC hnm V hl
  obtain ⟨hx, hb, hr, hml, hown, hts, hlocks⟩ := id hC
  generalize hH : s.heap = H at V ⊢
  clear hH
  have hl : lv_has ls 10 [(0, .ref o), (1, .int n), (2, .int what)] := hl
  generalize hlo : ([] : List Loc) = locs at V ⊢
  clear hlo
  refine lv_iload_n hx hb dX7_swapped_0 rfl (lv_at hl 2 rfl) ?_
  refine lv_iconst (v := (nI 0)) hx hb dX7_swapped_1 (by decide +kernel) ?_
  refine lv_iconst (v := (nI 1)) hx hb dX7_swapped_2 (by decide +kernel) ?_
  refine g_callS (wr := [(o, .inr (7, [.ref n0, .ref s0, .ref im, .ref iz, .ref rw, .ref t0, .ref u0, .ref h0, .ref y0, .null])), (n0, .inr (5, [.int (nI 0), .int (nI 0), .int (nI 0), .int (nI 20), .int (nI 0), .ref n1, .ref n2, .ref n3, .ref n4, .ref n5, .ref n6, .ref n7, .ref n8, .ref n9, .ref n10])), (n1, .inl (T 0, 10, .inl (fun _ => nI 0))), (n2, .inl (T 0, 10, .inl (fun _ => nI 0))), (n3, .inl (T 0, 10, .inl (fun _ => nI 0))), (n4, .inl (T 0, 10, .inl (fun _ => nI 0))), (n5, .inl (T 0, 10, .inl (fun _ => nI 0))), (n6, .inl (T 0, 10, .inl (fun _ => nI 0))), (n7, .inl (T 0, 10, .inl (fun _ => nI 0))), (n8, .inl (T 0, 10, .inl (fun _ => nI 0))), (n9, .inl (T 0, 10, .inl (fun _ => nI 0))), (n10, .inl (T 0, 10, .inl (fun _ => nI 0))), (s0, .inr (5, [.int (nI 0), .int (nI 0), .int (nI 0), .int (nI 20), .int (nI 0), .ref s1, .ref s2, .ref s3, .ref s4, .ref s5, .ref s6, .ref s7, .ref s8, .ref s9, .ref s10])), (s1, .inl (T 0, 10, .inl (fun _ => nI 0))), (s2, .inl (T 0, 10, .inl (fun _ => nI 0))), (s3, .inl (T 0, 10, .inl (fun _ => nI 0))), (s4, .inl (T 0, 10, .inl (fun _ => nI 0))), (s5, .inl (T 0, 10, .inl (fun _ => nI 0))), (s6, .inl (T 0, 10, .inl (fun _ => nI 0))), (s7, .inl (T 0, 10, .inl (fun _ => nI 0))), (s8, .inl (T 0, 10, .inl (fun _ => nI 0))), (s9, .inl (T 0, 10, .inl (fun _ => nI 0))), (s10, .inl (T 0, 10, .inl (fun _ => nI 0)))]) (nA := 3) hC V hl.1 (c_isWithin l D T what (nI 0) (nI 1)) w_292 w_293 w_2 w_294 (by decide +kernel) rfl ⟨(Nat.le_of_ble_eq_true rfl), (Nat.le_of_ble_eq_true rfl)⟩ [] [0, 1, 2, 3, 4, 5, 6, 7, 8, 9, 10, 11, 12, 13, 14, 15, 16, 17, 18, 19, 20, 21, 22] rfl rfl rfl rfl (by decide) (Nat.le_of_ble_eq_true rfl) dX7_swapped_3 ⟨(Nat.le_of_ble_eq_true rfl), (Nat.le_of_ble_eq_true rfl)⟩ rfl (fun r w1 H locs hQ V => ?_)
  rcases hQ with ⟨rfl, rfl, f_1, f_2⟩ | ⟨rfl, rfl, f_3⟩
  · have V : gW D T A s [(o, .inr (7, [.ref n0, .ref s0, .ref im, .ref iz, .ref rw, .ref t0, .ref u0, .ref h0, .ref y0, .null])), (n0, .inr (5, [.int (nI 0), .int (nI 0), .int (nI 0), .int (nI 20), .int (nI 0), .ref n1, .ref n2, .ref n3, .ref n4, .ref n5, .ref n6, .ref n7, .ref n8, .ref n9, .ref n10])), (n1, .inl (T 0, 10, .inl (fun _ => nI 0))), (n2, .inl (T 0, 10, .inl (fun _ => nI 0))), (n3, .inl (T 0, 10, .inl (fun _ => nI 0))), (n4, .inl (T 0, 10, .inl (fun _ => nI 0))), (n5, .inl (T 0, 10, .inl (fun _ => nI 0))), (n6, .inl (T 0, 10, .inl (fun _ => nI 0))), (n7, .inl (T 0, 10, .inl (fun _ => nI 0))), (n8, .inl (T 0, 10, .inl (fun _ => nI 0))), (n9, .inl (T 0, 10, .inl (fun _ => nI 0))), (n10, .inl (T 0, 10, .inl (fun _ => nI 0))), (s0, .inr (5, [.int (nI 0), .int (nI 0), .int (nI 0), .int (nI 20), .int (nI 0), .ref s1, .ref s2, .ref s3, .ref s4, .ref s5, .ref s6, .ref s7, .ref s8, .ref s9, .ref s10])), (s1, .inl (T 0, 10, .inl (fun _ => nI 0))), (s2, .inl (T 0, 10, .inl (fun _ => nI 0))), (s3, .inl (T 0, 10, .inl (fun _ => nI 0))), (s4, .inl (T 0, 10, .inl (fun _ => nI 0))), (s5, .inl (T 0, 10, .inl (fun _ => nI 0))), (s6, .inl (T 0, 10, .inl (fun _ => nI 0))), (s7, .inl (T 0, 10, .inl (fun _ => nI 0))), (s8, .inl (T 0, 10, .inl (fun _ => nI 0))), (s9, .inl (T 0, 10, .inl (fun _ => nI 0))), (s10, .inl (T 0, 10, .inl (fun _ => nI 0)))] H locs := V
    show W p l e _ s m args below meth c H locs _ _ _ (F0 m 6 ls [.int (nI 1)])
    refine lv_if_ne (tgt := 12) hx hb dX7_swapped_6 (by decide) (fun _ => ?_) (fun c => absurd (show (nI 1) = 0 from c) (by decide +kernel))
    refine lv_aload_n hx hb dX7_swapped_12 rfl (lv_at hl 0 rfl) ?_
    refine lv_iload_n hx hb dX7_swapped_13 rfl (lv_at hl 1 rfl) ?_
    refine lv_sipush (v := (nI 200)) hx hb dX7_swapped_14 (by decide +kernel) ?_
    refine g_callV (wr := [(s0, .inr (5, [.int (nI 0), .int (nI 0), .int (nI 0), .int (nI 20), .int (nI 0), .ref s1, .ref s2, .ref s3, .ref s4, .ref s5, .ref s6, .ref s7, .ref s8, .ref s9, .ref s10])), (s1, .inl (T 0, 10, .inl (fun _ => nI 0))), (s2, .inl (T 0, 10, .inl (fun _ => nI 0))), (s3, .inl (T 0, 10, .inl (fun _ => nI 0))), (s4, .inl (T 0, 10, .inl (fun _ => nI 0))), (s5, .inl (T 0, 10, .inl (fun _ => nI 0))), (s6, .inl (T 0, 10, .inl (fun _ => nI 0))), (s7, .inl (T 0, 10, .inl (fun _ => nI 0))), (s8, .inl (T 0, 10, .inl (fun _ => nI 0))), (s9, .inl (T 0, 10, .inl (fun _ => nI 0))), (s10, .inl (T 0, 10, .inl (fun _ => nI 0)))]) (nA := 2) hC V hl.1 (c_refusedMinutes l D T o n 200 n0 s0 im iz rw t0 u0 h0 y0 n1 n2 n3 n4 n5 n6 n7 n8 n9 n10 (by first | assumption | omega | decide)) w_532 w_534 w_s12 w_2 w_535 (by decide +kernel) rfl ⟨(Nat.le_of_ble_eq_true rfl), (Nat.le_of_ble_eq_true rfl)⟩ 0 (ci := 7) rfl rfl [0, 1, 2, 3, 4, 5, 6, 7, 8, 9, 10, 11] [12, 13, 14, 15, 16, 17, 18, 19, 20, 21, 22] rfl rfl rfl rfl (by decide) (Nat.le_of_ble_eq_true rfl) dX7_swapped_17 ⟨(Nat.le_of_ble_eq_true rfl), (Nat.le_of_ble_eq_true rfl)⟩ rfl (fun r w1 H locs hQ V => ?_)
    rcases hQ with ⟨rfl, rfl, f_4⟩ | ⟨jj, rfl, rfl, f_5, f_6, f_7, f_8, f_9⟩
    · have V : gW D T A s [(s0, .inr (5, [.int (nI 0), .int (nI 0), .int (nI 0), .int (nI 20), .int (nI 0), .ref s1, .ref s2, .ref s3, .ref s4, .ref s5, .ref s6, .ref s7, .ref s8, .ref s9, .ref s10])), (s1, .inl (T 0, 10, .inl (fun _ => nI 0))), (s2, .inl (T 0, 10, .inl (fun _ => nI 0))), (s3, .inl (T 0, 10, .inl (fun _ => nI 0))), (s4, .inl (T 0, 10, .inl (fun _ => nI 0))), (s5, .inl (T 0, 10, .inl (fun _ => nI 0))), (s6, .inl (T 0, 10, .inl (fun _ => nI 0))), (s7, .inl (T 0, 10, .inl (fun _ => nI 0))), (s8, .inl (T 0, 10, .inl (fun _ => nI 0))), (s9, .inl (T 0, 10, .inl (fun _ => nI 0))), (s10, .inl (T 0, 10, .inl (fun _ => nI 0))), (o, .inr (7, [.ref n0, .ref s0, .ref im, .ref iz, .ref rw, .ref t0, .ref u0, .ref h0, .ref y0, .null])), (n0, .inr (5, [.int (nI 0), .int (nI 0), .int (nI 0), .int (nI 20), .int (nI 0), .ref n1, .ref n2, .ref n3, .ref n4, .ref n5, .ref n6, .ref n7, .ref n8, .ref n9, .ref n10])), (n1, .inl (T 0, 10, .inl (fun _ => nI 0))), (n2, .inl (T 0, 10, .inl (fun _ => nI 0))), (n3, .inl (T 0, 10, .inl (fun _ => nI 0))), (n4, .inl (T 0, 10, .inl (fun _ => nI 0))), (n5, .inl (T 0, 10, .inl (fun _ => nI 0))), (n6, .inl (T 0, 10, .inl (fun _ => nI 0))), (n7, .inl (T 0, 10, .inl (fun _ => nI 0))), (n8, .inl (T 0, 10, .inl (fun _ => nI 0))), (n9, .inl (T 0, 10, .inl (fun _ => nI 0))), (n10, .inl (T 0, 10, .inl (fun _ => nI 0)))] H locs := V
      show W p l e _ s m args below meth c H locs _ _ _ (F0 m 20 ls [.int (-3)])
      refine lv_istore_n (lv' := [(3, .int (-3)), (0, .ref o), (1, .int n), (2, .int what)]) hx hb dX7_swapped_20 rfl hl (by decide) rfl (fun ls hl => ?_)
      refine lv_iload_n hx hb dX7_swapped_21 rfl (lv_at hl 0 rfl) ?_
      refine lv_if_eq (tgt := 27) hx hb dX7_swapped_22 (by decide) (fun c => absurd (show (-3 : Int32) = 0 from c) (by decide +kernel)) (fun _ => ?_)
      refine lv_iload_n hx hb dX7_swapped_25 rfl (lv_at hl 0 rfl) ?_
      have V := V.sub (ws' := []) [] rfl rfl
      exact g_iret (Qr := (q_X7_swapped T o n what n0 s0 im iz rw t0 u0 h0 y0 n1 n2 n3 n4 n5 n6 n7 n8 n9 n10 s1 s2 s3 s4 s5 s6 s7 s8 s9 s10)) hC V ⟨(Nat.le_of_ble_eq_true rfl), (Nat.le_of_ble_eq_true rfl)⟩ ⟨(-3), rfl, rfl, (by first | exact pf_swapped_1 ‹_› | exact pf_swapped_2 ‹_› ‹_› ‹_› | exact pf_swapped_3 ‹_› ‹_› ‹_› ‹_› ‹_› | exact pf_swapped_4 ‹_› ‹_› ‹_› ‹_› ‹_›)⟩ dX7_swapped_26
    · have V : gW D T A s [(s0, .inr (5, [.int (nI 0), .int (nI 0), .int (nI 0), .int (nI 20), .int (nI 0), .ref s1, .ref s2, .ref s3, .ref s4, .ref s5, .ref s6, .ref s7, .ref s8, .ref s9, .ref s10])), (s1, .inl (T 0, 10, .inl (fun _ => nI 0))), (s2, .inl (T 0, 10, .inl (fun _ => nI 0))), (s3, .inl (T 0, 10, .inl (fun _ => nI 0))), (s4, .inl (T 0, 10, .inl (fun _ => nI 0))), (s5, .inl (T 0, 10, .inl (fun _ => nI 0))), (s6, .inl (T 0, 10, .inl (fun _ => nI 0))), (s7, .inl (T 0, 10, .inl (fun _ => nI 0))), (s8, .inl (T 0, 10, .inl (fun _ => nI 0))), (s9, .inl (T 0, 10, .inl (fun _ => nI 0))), (s10, .inl (T 0, 10, .inl (fun _ => nI 0))), (o, .inr (7, [.ref n0, .ref s0, .ref im, .ref iz, .ref rw, .ref t0, .ref u0, .ref h0, .ref y0, .null])), (n0, .inr (5, [.int (nI 0), .int (nI 0), .int (nI 0), .int (nI 20), .int (nI 0), .ref n1, .ref n2, .ref n3, .ref n4, .ref n5, .ref n6, .ref n7, .ref n8, .ref n9, .ref n10])), (n1, .inl (T 0, 10, .inl (fun _ => nI 0))), (n2, .inl (T 0, 10, .inl (fun _ => nI 0))), (n3, .inl (T 0, 10, .inl (fun _ => nI 0))), (n4, .inl (T 0, 10, .inl (fun _ => nI 0))), (n5, .inl (T 0, 10, .inl (fun _ => nI 0))), (n6, .inl (T 0, 10, .inl (fun _ => nI 0))), (n7, .inl (T 0, 10, .inl (fun _ => nI 0))), (n8, .inl (T 0, 10, .inl (fun _ => nI 0))), (n9, .inl (T 0, 10, .inl (fun _ => nI 0))), (n10, .inl (T 0, 10, .inl (fun _ => nI 0)))] H locs := V
      show W p l e _ s m args below meth c H locs _ _ _ (F0 m 20 ls [.int (nI 0)])
      rw [f_9] at hl
      refine lv_istore_n (lv' := [(3, .int (nI 0)), (0, .ref o), (1, .int (nI jj)), (2, .int what)]) hx hb dX7_swapped_20 rfl hl (by decide) rfl (fun ls hl => ?_)
      refine lv_iload_n hx hb dX7_swapped_21 rfl (lv_at hl 0 rfl) ?_
      refine lv_if_eq (tgt := 27) hx hb dX7_swapped_22 (by decide) (fun _ => ?_) (fun c => absurd (show (nI 0) = 0 by decide +kernel) c)
      refine lv_aload_n hx hb dX7_swapped_27 rfl (lv_at hl 1 rfl) ?_
      refine lv_iload_n hx hb dX7_swapped_28 rfl (lv_at hl 2 rfl) ?_
      refine lv_iconst (v := (nI 0)) hx hb dX7_swapped_29 (by decide +kernel) ?_
      refine lv_iconst (v := (-1)) hx hb dX7_swapped_30 (by decide +kernel) ?_
      refine lv_iconst (v := (nI 0)) hx hb dX7_swapped_31 (by decide +kernel) ?_
      refine g_callV (wr := []) (nA := 4) hC V hl.1 (c_doneByCustom l D T o jj (nI 0) (-1) (nI 0) n0 s0 im iz rw t0 u0 h0 y0 n1 n2 n3 n4 n5 n6 n7 n8 n9 n10 (nI 0) (nI 0) (nI 0) (nI 20) (nI 0) s1 s2 s3 s4 s5 s6 s7 s8 s9 s10 (by first | assumption | omega | decide)) w_536 w_538 w_s13 w_2 w_539 (by decide +kernel) rfl ⟨(Nat.le_of_ble_eq_true rfl), (Nat.le_of_ble_eq_true rfl)⟩ 11 (ci := 7) rfl rfl [11, 12, 13, 14, 15, 16, 17, 18, 19, 20, 21, 22, 0, 1, 2, 3, 4, 5, 6, 7, 8, 9, 10] [] rfl rfl rfl rfl (by decide) (Nat.le_of_ble_eq_true rfl) dX7_swapped_32 ⟨(Nat.le_of_ble_eq_true rfl), (Nat.le_of_ble_eq_true rfl)⟩ rfl (fun r w1 H locs hQ V => ?_)
      obtain ⟨z_10, rfl, rfl⟩ := hQ
      have V : gW D T A s [(o, .inr (7, [.ref n0, .ref s0, .ref im, .ref iz, .ref rw, .ref t0, .ref u0, .ref h0, .ref y0, .null])), (n0, .inr (5, [.int (nI 0), .int (nI 0), .int (nI 0), .int (nI 20), .int (nI 0), .ref n1, .ref n2, .ref n3, .ref n4, .ref n5, .ref n6, .ref n7, .ref n8, .ref n9, .ref n10])), (n1, .inl (T 0, 10, .inl (fun _ => nI 0))), (n2, .inl (T 0, 10, .inl (fun _ => nI 0))), (n3, .inl (T 0, 10, .inl (fun _ => nI 0))), (n4, .inl (T 0, 10, .inl (fun _ => nI 0))), (n5, .inl (T 0, 10, .inl (fun _ => nI 0))), (n6, .inl (T 0, 10, .inl (fun _ => nI 0))), (n7, .inl (T 0, 10, .inl (fun _ => nI 0))), (n8, .inl (T 0, 10, .inl (fun _ => nI 0))), (n9, .inl (T 0, 10, .inl (fun _ => nI 0))), (n10, .inl (T 0, 10, .inl (fun _ => nI 0))), (s0, .inr (5, [.int (nI 0), .int (nI z_10), .int (nI 0), .int (nI 20), .int (nI 0), .ref s1, .ref s2, .ref s3, .ref s4, .ref s5, .ref s6, .ref s7, .ref s8, .ref s9, .ref s10])), (s1, .inl (T 0, 10, .inl (fun _ => nI 0))), (s2, .inl (T 0, 10, .inl (fun _ => nI 0))), (s3, .inl (T 0, 10, .inl (fun _ => nI 0))), (s4, .inl (T 0, 10, .inl (fun _ => nI 0))), (s5, .inl (T 0, 10, .inl (fun _ => nI 0))), (s6, .inl (T 0, 10, .inl (fun _ => nI 0))), (s7, .inl (T 0, 10, .inl (fun _ => nI 0))), (s8, .inl (T 0, 10, .inl (fun _ => nI 0))), (s9, .inl (T 0, 10, .inl (fun _ => nI 0))), (s10, .inl (T 0, 10, .inl (fun _ => nI 0)))] H locs := V
      show W p l e _ s m args below meth c H locs _ _ _ (F0 m 35 ls [.int (nI 0)])
      refine lv_istore (lv' := [(4, .int (nI 0)), (3, .int (nI 0)), (0, .ref o), (1, .int (nI jj)), (2, .int what)]) hx hb dX7_swapped_35 hl (by decide) rfl (fun ls hl => ?_)
      refine lv_iload hx hb dX7_swapped_37 (lv_at hl 0 rfl) ?_
      refine lv_istore (lv' := [(5, .int (nI 0)), (4, .int (nI 0)), (3, .int (nI 0)), (0, .ref o), (1, .int (nI jj)), (2, .int what)]) hx hb dX7_swapped_39 hl (by decide) rfl (fun ls hl => ?_)
      refine lv_iconst (v := (-1)) hx hb dX7_swapped_41 (by decide +kernel) ?_
      refine lv_istore (lv' := [(6, .int (-1)), (5, .int (nI 0)), (4, .int (nI 0)), (3, .int (nI 0)), (0, .ref o), (1, .int (nI jj)), (2, .int what)]) hx hb dX7_swapped_42 hl (by decide) rfl (fun ls hl => ?_)
      refine lv_iconst (v := (nI 0)) hx hb dX7_swapped_44 (by decide +kernel) ?_
      refine lv_istore (lv' := [(7, .int (nI 0)), (6, .int (-1)), (5, .int (nI 0)), (4, .int (nI 0)), (3, .int (nI 0)), (0, .ref o), (1, .int (nI jj)), (2, .int what)]) hx hb dX7_swapped_45 hl (by decide) rfl (fun ls hl => ?_)
      refine lv_iload hx hb dX7_swapped_47 (lv_at hl 0 rfl) ?_
      refine lv_aload_n hx hb dX7_swapped_49 rfl (lv_at hl 5 rfl) ?_
      refine g_get hC V (ci := 7) uwX7 0 rfl rfl 0 (by decide) w_249 rfl rfl dX7_swapped_50 ?_
      refine g_get hC V (ci := 5) uwX5 1 rfl rfl 0 (by decide) w_38 rfl rfl dX7_swapped_53 ?_
      refine lv_icmp_ge (tgt := 121) hx hb dX7_swapped_56 (by decide) (fun _ => ?_) (fun c => absurd (show (nI 0) ≤ (nI 0) by first | rfl | decide +kernel) c)
      refine lv_iload_n hx hb dX7_swapped_121 rfl (lv_at hl 7 rfl) ?_
      refine lv_if_ne (tgt := 133) hx hb dX7_swapped_122 (by decide) (fun c_11 => ?_) (fun c_11 => ?_)
      · skip
        refine lv_iload hx hb dX7_swapped_133 (lv_at hl 1 rfl) ?_
        have V := V.sub (ws' := []) [] rfl rfl
        exact g_iret (Qr := (q_X7_swapped T o n what n0 s0 im iz rw t0 u0 h0 y0 n1 n2 n3 n4 n5 n6 n7 n8 n9 n10 s1 s2 s3 s4 s5 s6 s7 s8 s9 s10)) hC V ⟨(Nat.le_of_ble_eq_true rfl), (Nat.le_of_ble_eq_true rfl)⟩ ⟨(-1), rfl, rfl, (by first | exact pf_swapped_1 ‹_› | exact pf_swapped_2 ‹_› ‹_› ‹_› | exact pf_swapped_3 ‹_› ‹_› ‹_› ‹_› ‹_› | exact pf_swapped_4 ‹_› ‹_› ‹_› ‹_› ‹_›)⟩ dX7_swapped_135
      · skip
        refine lv_iload hx hb dX7_swapped_125 (lv_at hl 2 rfl) ?_
        refine lv_iload hx hb dX7_swapped_127 (lv_at hl 3 rfl) ?_
        refine lv_isub hx hb dX7_swapped_129 ?_
        refine g_vi (y := (nI 0)) (by decide +kernel) ?_
        refine lv_goto (tgt := 135) hx hb dX7_swapped_130 (by decide) ?_
        have V := V.sub (ws' := []) [] rfl rfl
        exact g_iret (Qr := (q_X7_swapped T o n what n0 s0 im iz rw t0 u0 h0 y0 n1 n2 n3 n4 n5 n6 n7 n8 n9 n10 s1 s2 s3 s4 s5 s6 s7 s8 s9 s10)) hC V ⟨(Nat.le_of_ble_eq_true rfl), (Nat.le_of_ble_eq_true rfl)⟩ ⟨(nI 0), rfl, rfl, (by first | exact pf_swapped_1 ‹_› | exact pf_swapped_2 ‹_› ‹_› ‹_› | exact pf_swapped_3 ‹_› ‹_› ‹_› ‹_› ‹_› | exact pf_swapped_4 ‹_› ‹_› ‹_› ‹_› ‹_›)⟩ dX7_swapped_135
  · have V : gW D T A s [(o, .inr (7, [.ref n0, .ref s0, .ref im, .ref iz, .ref rw, .ref t0, .ref u0, .ref h0, .ref y0, .null])), (n0, .inr (5, [.int (nI 0), .int (nI 0), .int (nI 0), .int (nI 20), .int (nI 0), .ref n1, .ref n2, .ref n3, .ref n4, .ref n5, .ref n6, .ref n7, .ref n8, .ref n9, .ref n10])), (n1, .inl (T 0, 10, .inl (fun _ => nI 0))), (n2, .inl (T 0, 10, .inl (fun _ => nI 0))), (n3, .inl (T 0, 10, .inl (fun _ => nI 0))), (n4, .inl (T 0, 10, .inl (fun _ => nI 0))), (n5, .inl (T 0, 10, .inl (fun _ => nI 0))), (n6, .inl (T 0, 10, .inl (fun _ => nI 0))), (n7, .inl (T 0, 10, .inl (fun _ => nI 0))), (n8, .inl (T 0, 10, .inl (fun _ => nI 0))), (n9, .inl (T 0, 10, .inl (fun _ => nI 0))), (n10, .inl (T 0, 10, .inl (fun _ => nI 0))), (s0, .inr (5, [.int (nI 0), .int (nI 0), .int (nI 0), .int (nI 20), .int (nI 0), .ref s1, .ref s2, .ref s3, .ref s4, .ref s5, .ref s6, .ref s7, .ref s8, .ref s9, .ref s10])), (s1, .inl (T 0, 10, .inl (fun _ => nI 0))), (s2, .inl (T 0, 10, .inl (fun _ => nI 0))), (s3, .inl (T 0, 10, .inl (fun _ => nI 0))), (s4, .inl (T 0, 10, .inl (fun _ => nI 0))), (s5, .inl (T 0, 10, .inl (fun _ => nI 0))), (s6, .inl (T 0, 10, .inl (fun _ => nI 0))), (s7, .inl (T 0, 10, .inl (fun _ => nI 0))), (s8, .inl (T 0, 10, .inl (fun _ => nI 0))), (s9, .inl (T 0, 10, .inl (fun _ => nI 0))), (s10, .inl (T 0, 10, .inl (fun _ => nI 0)))] H locs := V
    show W p l e _ s m args below meth c H locs _ _ _ (F0 m 6 ls [.int (nI 0)])
    refine lv_if_ne (tgt := 12) hx hb dX7_swapped_6 (by decide) (fun c => absurd (show (nI 0) = 0 by decide +kernel) c) (fun _ => ?_)
    refine lv_bipush (v := (-2)) hx hb dX7_swapped_9 (by decide +kernel) ?_
    have V := V.sub (ws' := []) [] rfl rfl
    exact g_iret (Qr := (q_X7_swapped T o n what n0 s0 im iz rw t0 u0 h0 y0 n1 n2 n3 n4 n5 n6 n7 n8 n9 n10 s1 s2 s3 s4 s5 s6 s7 s8 s9 s10)) hC V ⟨(Nat.le_of_ble_eq_true rfl), (Nat.le_of_ble_eq_true rfl)⟩ ⟨(-2), rfl, rfl, (by first | exact pf_swapped_1 ‹_› | exact pf_swapped_2 ‹_› ‹_› ‹_› | exact pf_swapped_3 ‹_› ‹_› ‹_› ‹_› ‹_› | exact pf_swapped_4 ‹_› ‹_› ‹_› ‹_› ‹_›)⟩ dX7_swapped_11

def q_begin (T : Nat → ClassId) (a0 : Nat) (sort : Int32) (n : Int32) (th : Int32) (sz : Int32) (a1 : Nat) (so : Int32) (f0 : Nat → Int64) : Option Value → va_W → Prop := fun rr ww => (∃ (g : Nat → Int64), rr = none ∧ ww = [(a0, .inr (1, [.int (nI 1), .int n, .ref a1, .int sort])), (a1, .inl (T 1, 40, .inr (.inl g)))])
set_option maxHeartbeats 4000000 in
set_option maxRecDepth 100000 in
theorem c_begin (l : Launch) (D : va_G) (T : Nat → ClassId) (a0 : Nat) (sort : Int32) (n : Int32) (th : Int32) (sz : Int32) (a1 : Nat) (so : Int32) (f0 : Nat → Int64) : Ct l yX1_begin cX1_begin 3 none 1 0 0 D T [.ref a0, .int sort, .int n] [(a0, .inr (1, [.int th, .int sz, .ref a1, .int so])), (a1, .inl (T 1, 40, .inr (.inl f0)))] (q_begin T a0 sort n th sz a1 so f0) := by
  refine Ct.of (cc := cX1_begin) (maxL := 3) (ret := none) (by decide) (Nat.le_of_ble_eq_true rfl) ?_
  intro p e s m args below meth c A ls hC hnm V hl
  obtain ⟨hx, hb, hr, hml, hown, hts, hlocks⟩ := id hC
  generalize hH : s.heap = H at V ⊢
  clear hH
  have hl : lv_has ls 3 [(0, .ref a0), (1, .int sort), (2, .int n)] := hl
  generalize hlo : ([] : List Loc) = locs at V ⊢
  clear hlo
  refine lv_aload_n hx hb dX1_begin_0 rfl (lv_at hl 0 rfl) ?_
  refine lv_iconst (v := (nI 1)) hx hb dX1_begin_1 (by decide +kernel) ?_
  refine g_put hC V (ci := 1) uwX1 tyX1 tyX1_ok nmX1 0 rfl rfl 0 (by decide) w_228 rfl rfl (by decide +kernel) rfl (Nat.le_of_ble_eq_true rfl) (ws' := [(a0, .inr (1, [.int (nI 1), .int sz, .ref a1, .int so])), (a1, .inl (T 1, 40, .inr (.inl f0)))]) rfl dX1_begin_2 (fun H locs V => ?_)
  refine lv_aload_n hx hb dX1_begin_5 rfl (lv_at hl 0 rfl) ?_
  refine lv_iload_n hx hb dX1_begin_6 rfl (lv_at hl 1 rfl) ?_
  refine g_put hC V (ci := 1) uwX1 tyX1 tyX1_ok nmX1 0 rfl rfl 3 (by decide) w_238 rfl rfl rfl rfl (Nat.le_of_ble_eq_true rfl) (ws' := [(a0, .inr (1, [.int (nI 1), .int sz, .ref a1, .int sort])), (a1, .inl (T 1, 40, .inr (.inl f0)))]) rfl dX1_begin_7 (fun H locs V => ?_)
  refine lv_aload_n hx hb dX1_begin_10 rfl (lv_at hl 0 rfl) ?_
  refine lv_iload_n hx hb dX1_begin_11 rfl (lv_at hl 2 rfl) ?_
  refine g_put hC V (ci := 1) uwX1 tyX1 tyX1_ok nmX1 0 rfl rfl 1 (by decide) w_230 rfl rfl rfl rfl (Nat.le_of_ble_eq_true rfl) (ws' := [(a0, .inr (1, [.int (nI 1), .int n, .ref a1, .int sort])), (a1, .inl (T 1, 40, .inr (.inl f0)))]) rfl dX1_begin_12 (fun H locs V => ?_)
  refine lv_aload_n hx hb dX1_begin_15 rfl (lv_at hl 0 rfl) ?_
  refine g_get hC V (ci := 1) uwX1 0 rfl rfl 2 (by decide) w_233 rfl rfl dX1_begin_16 ?_
  refine lv_lconst (v := (nI 0).toInt64) hx hb dX1_begin_19 (by decide +kernel) ?_
  refine g_callS (wr := [(a0, .inr (1, [.int (nI 1), .int n, .ref a1, .int sort]))]) (nA := 2) hC V hl.1 (c_fillJ l D T a1 ((nI 0).toInt64) f0) w_863 w_864 w_11 w_865 (by decide +kernel) rfl ⟨(Nat.le_of_ble_eq_true rfl), (Nat.le_of_ble_eq_true rfl)⟩ [1] [0] rfl rfl rfl rfl (by decide) (Nat.le_of_ble_eq_true rfl) dX1_begin_20 ⟨(Nat.le_of_ble_eq_true rfl), (Nat.le_of_ble_eq_true rfl)⟩ rfl (fun r w1 H locs hQ V => ?_)
  obtain ⟨g_1, rfl, rfl⟩ := hQ
  have V : gW D T A s [(a0, .inr (1, [.int (nI 1), .int n, .ref a1, .int sort])), (a1, .inl (T 1, 40, .inr (.inl g_1)))] H locs := V
  show W p l e _ s m args below meth c H locs _ _ _ (F0 m 23 ls [])
  exact g_vret (Qr := (q_begin T a0 sort n th sz a1 so f0)) hC V ⟨(Nat.le_of_ble_eq_true rfl), (Nat.le_of_ble_eq_true rfl)⟩ ⟨g_1, rfl, rfl⟩ dX1_begin_23

def q_X7_numbers (T : Nat → ClassId) (o : Nat) (row : Int32) (sort : Int32) (n : Int32) (n0 : Nat) (s0 : Nat) (im : Nat) (iz : Nat) (rw : Nat) (t0 : Nat) (u0 : Nat) (h0 : Nat) (y0 : Nat) (ra0 : Nat) (rb0 : Nat) (rc0 : Nat) (rd0 : Nat) (ra1 : Nat) (rb1 : Nat) (rc1 : Nat) (rd1 : Nat) : Option Value → va_W → Prop := fun rr ww => (∃ (z : Int32), rr = some (.int z) ∧ ww = [] ∧ z = pf_numbers row sort n)
set_option maxHeartbeats 4000000 in
set_option maxRecDepth 100000 in
theorem p_X7_numbers (l : Launch) (D : va_G) (T : Nat → ClassId) (o : Nat) (row : Int32) (sort : Int32) (n : Int32) (n0 : Nat) (s0 : Nat) (im : Nat) (iz : Nat) (rw : Nat) (t0 : Nat) (u0 : Nat) (h0 : Nat) (y0 : Nat) (ra0 : Nat) (rb0 : Nat) (rc0 : Nat) (rd0 : Nat) (ra1 : Nat) (rb1 : Nat) (rc1 : Nat) (rd1 : Nat) : Ct l yX7_numbers cX7_numbers 4 (some .int) 2 0 0 D T [.ref o, .int row, .int sort, .int n] [(o, .inr (7, [.ref n0, .ref s0, .ref im, .ref iz, .ref rw, .ref t0, .ref u0, .ref h0, .ref y0, .null])), (rw, .inl (T 5, 4, .inr (.inr (.inr (.inr (va_up (va_up (va_up (va_up (fun _ => none) 0 (some ra0)) 1 (some rb0)) 2 (some rc0)) 3 (some rd0))))))), (ra0, .inr (1, [.int (nI 0), .int (nI 0), .ref ra1, .int (nI 0)])), (ra1, .inl (T 1, 40, .inr (.inl (fun _ => 0)))), (rb0, .inr (1, [.int (nI 0), .int (nI 0), .ref rb1, .int (nI 0)])), (rb1, .inl (T 1, 40, .inr (.inl (fun _ => 0)))), (rc0, .inr (1, [.int (nI 0), .int (nI 0), .ref rc1, .int (nI 0)])), (rc1, .inl (T 1, 40, .inr (.inl (fun _ => 0)))), (rd0, .inr (1, [.int (nI 0), .int (nI 0), .ref rd1, .int (nI 0)])), (rd1, .inl (T 1, 40, .inr (.inl (fun _ => 0))))] (q_X7_numbers T o row sort n n0 s0 im iz rw t0 u0 h0 y0 ra0 rb0 rc0 rd0 ra1 rb1 rc1 rd1) := by
  refine Ct.of (cc := cX7_numbers) (maxL := 4) (ret := (some .int)) (by decide) (Nat.le_of_ble_eq_true rfl) ?_
  intro p e s m args below meth c A ls hC hnm V hl
  obtain ⟨hx, hb, hr, hml, hown, hts, hlocks⟩ := id hC
  generalize hH : s.heap = H at V ⊢
  clear hH
  have hl : lv_has ls 4 [(0, .ref o), (1, .int row), (2, .int sort), (3, .int n)] := hl
  generalize hlo : ([] : List Loc) = locs at V ⊢
  clear hlo
  refine lv_iload_n hx hb dX7_numbers_0 rfl (lv_at hl 1 rfl) ?_
  refine g_callS (wr := [(o, .inr (7, [.ref n0, .ref s0, .ref im, .ref iz, .ref rw, .ref t0, .ref u0, .ref h0, .ref y0, .null])), (rw, .inl (T 5, 4, .inr (.inr (.inr (.inr (va_up (va_up (va_up (va_up (fun _ => none) 0 (some ra0)) 1 (some rb0)) 2 (some rc0)) 3 (some rd0))))))), (ra0, .inr (1, [.int (nI 0), .int (nI 0), .ref ra1, .int (nI 0)])), (ra1, .inl (T 1, 40, .inr (.inl (fun _ => 0)))), (rb0, .inr (1, [.int (nI 0), .int (nI 0), .ref rb1, .int (nI 0)])), (rb1, .inl (T 1, 40, .inr (.inl (fun _ => 0)))), (rc0, .inr (1, [.int (nI 0), .int (nI 0), .ref rc1, .int (nI 0)])), (rc1, .inl (T 1, 40, .inr (.inl (fun _ => 0)))), (rd0, .inr (1, [.int (nI 0), .int (nI 0), .ref rd1, .int (nI 0)])), (rd1, .inl (T 1, 40, .inr (.inl (fun _ => 0))))]) (nA := 1) hC V hl.1 (c_isRow l D T row) w_501 w_502 w_2 w_503 (by decide +kernel) rfl ⟨(Nat.le_of_ble_eq_true rfl), (Nat.le_of_ble_eq_true rfl)⟩ [] [0, 1, 2, 3, 4, 5, 6, 7, 8, 9] rfl rfl rfl rfl (by decide) (Nat.le_of_ble_eq_true rfl) dX7_numbers_1 ⟨(Nat.le_of_ble_eq_true rfl), (Nat.le_of_ble_eq_true rfl)⟩ rfl (fun r w1 H locs hQ V => ?_)
  rcases hQ with ⟨rfl, rfl, f_1, f_2⟩ | ⟨rfl, rfl, f_3⟩
  · have V : gW D T A s [(o, .inr (7, [.ref n0, .ref s0, .ref im, .ref iz, .ref rw, .ref t0, .ref u0, .ref h0, .ref y0, .null])), (rw, .inl (T 5, 4, .inr (.inr (.inr (.inr (va_up (va_up (va_up (va_up (fun _ => none) 0 (some ra0)) 1 (some rb0)) 2 (some rc0)) 3 (some rd0))))))), (ra0, .inr (1, [.int (nI 0), .int (nI 0), .ref ra1, .int (nI 0)])), (ra1, .inl (T 1, 40, .inr (.inl (fun _ => 0)))), (rb0, .inr (1, [.int (nI 0), .int (nI 0), .ref rb1, .int (nI 0)])), (rb1, .inl (T 1, 40, .inr (.inl (fun _ => 0)))), (rc0, .inr (1, [.int (nI 0), .int (nI 0), .ref rc1, .int (nI 0)])), (rc1, .inl (T 1, 40, .inr (.inl (fun _ => 0)))), (rd0, .inr (1, [.int (nI 0), .int (nI 0), .ref rd1, .int (nI 0)])), (rd1, .inl (T 1, 40, .inr (.inl (fun _ => 0))))] H locs := V
    show W p l e _ s m args below meth c H locs _ _ _ (F0 m 4 ls [.int (nI 1)])
    refine lv_if_eq (tgt := 16) hx hb dX7_numbers_4 (by decide) (fun c => absurd (show (nI 1) = 0 from c) (by decide +kernel)) (fun _ => ?_)
    refine lv_iload_n hx hb dX7_numbers_7 rfl (lv_at hl 2 rfl) ?_
    refine lv_iconst (v := (nI 0)) hx hb dX7_numbers_8 (by decide +kernel) ?_
    refine lv_iconst (v := (nI 3)) hx hb dX7_numbers_9 (by decide +kernel) ?_
    refine g_callS (wr := [(o, .inr (7, [.ref n0, .ref s0, .ref im, .ref iz, .ref rw, .ref t0, .ref u0, .ref h0, .ref y0, .null])), (rw, .inl (T 5, 4, .inr (.inr (.inr (.inr (va_up (va_up (va_up (va_up (fun _ => none) 0 (some ra0)) 1 (some rb0)) 2 (some rc0)) 3 (some rd0))))))), (ra0, .inr (1, [.int (nI 0), .int (nI 0), .ref ra1, .int (nI 0)])), (ra1, .inl (T 1, 40, .inr (.inl (fun _ => 0)))), (rb0, .inr (1, [.int (nI 0), .int (nI 0), .ref rb1, .int (nI 0)])), (rb1, .inl (T 1, 40, .inr (.inl (fun _ => 0)))), (rc0, .inr (1, [.int (nI 0), .int (nI 0), .ref rc1, .int (nI 0)])), (rc1, .inl (T 1, 40, .inr (.inl (fun _ => 0)))), (rd0, .inr (1, [.int (nI 0), .int (nI 0), .ref rd1, .int (nI 0)])), (rd1, .inl (T 1, 40, .inr (.inl (fun _ => 0))))]) (nA := 3) hC V hl.1 (c_isWithin l D T sort (nI 0) (nI 3)) w_292 w_293 w_2 w_294 (by decide +kernel) rfl ⟨(Nat.le_of_ble_eq_true rfl), (Nat.le_of_ble_eq_true rfl)⟩ [] [0, 1, 2, 3, 4, 5, 6, 7, 8, 9] rfl rfl rfl rfl (by decide) (Nat.le_of_ble_eq_true rfl) dX7_numbers_10 ⟨(Nat.le_of_ble_eq_true rfl), (Nat.le_of_ble_eq_true rfl)⟩ rfl (fun r w1 H locs hQ V => ?_)
    rcases hQ with ⟨rfl, rfl, f_4, f_5⟩ | ⟨rfl, rfl, f_6⟩
    · have V : gW D T A s [(o, .inr (7, [.ref n0, .ref s0, .ref im, .ref iz, .ref rw, .ref t0, .ref u0, .ref h0, .ref y0, .null])), (rw, .inl (T 5, 4, .inr (.inr (.inr (.inr (va_up (va_up (va_up (va_up (fun _ => none) 0 (some ra0)) 1 (some rb0)) 2 (some rc0)) 3 (some rd0))))))), (ra0, .inr (1, [.int (nI 0), .int (nI 0), .ref ra1, .int (nI 0)])), (ra1, .inl (T 1, 40, .inr (.inl (fun _ => 0)))), (rb0, .inr (1, [.int (nI 0), .int (nI 0), .ref rb1, .int (nI 0)])), (rb1, .inl (T 1, 40, .inr (.inl (fun _ => 0)))), (rc0, .inr (1, [.int (nI 0), .int (nI 0), .ref rc1, .int (nI 0)])), (rc1, .inl (T 1, 40, .inr (.inl (fun _ => 0)))), (rd0, .inr (1, [.int (nI 0), .int (nI 0), .ref rd1, .int (nI 0)])), (rd1, .inl (T 1, 40, .inr (.inl (fun _ => 0))))] H locs := V
      show W p l e _ s m args below meth c H locs _ _ _ (F0 m 13 ls [.int (nI 1)])
      refine lv_if_ne (tgt := 19) hx hb dX7_numbers_13 (by decide) (fun _ => ?_) (fun c => absurd (show (nI 1) = 0 from c) (by decide +kernel))
      refine lv_iload_n hx hb dX7_numbers_19 rfl (lv_at hl 3 rfl) ?_
      refine lv_iconst (v := (nI 0)) hx hb dX7_numbers_20 (by decide +kernel) ?_
      refine lv_bipush (v := (nI 40)) hx hb dX7_numbers_21 (by decide +kernel) ?_
      refine g_callS (wr := [(o, .inr (7, [.ref n0, .ref s0, .ref im, .ref iz, .ref rw, .ref t0, .ref u0, .ref h0, .ref y0, .null])), (rw, .inl (T 5, 4, .inr (.inr (.inr (.inr (va_up (va_up (va_up (va_up (fun _ => none) 0 (some ra0)) 1 (some rb0)) 2 (some rc0)) 3 (some rd0))))))), (ra0, .inr (1, [.int (nI 0), .int (nI 0), .ref ra1, .int (nI 0)])), (ra1, .inl (T 1, 40, .inr (.inl (fun _ => 0)))), (rb0, .inr (1, [.int (nI 0), .int (nI 0), .ref rb1, .int (nI 0)])), (rb1, .inl (T 1, 40, .inr (.inl (fun _ => 0)))), (rc0, .inr (1, [.int (nI 0), .int (nI 0), .ref rc1, .int (nI 0)])), (rc1, .inl (T 1, 40, .inr (.inl (fun _ => 0)))), (rd0, .inr (1, [.int (nI 0), .int (nI 0), .ref rd1, .int (nI 0)])), (rd1, .inl (T 1, 40, .inr (.inl (fun _ => 0))))]) (nA := 3) hC V hl.1 (c_isWithin l D T n (nI 0) (nI 40)) w_292 w_293 w_2 w_294 (by decide +kernel) rfl ⟨(Nat.le_of_ble_eq_true rfl), (Nat.le_of_ble_eq_true rfl)⟩ [] [0, 1, 2, 3, 4, 5, 6, 7, 8, 9] rfl rfl rfl rfl (by decide) (Nat.le_of_ble_eq_true rfl) dX7_numbers_23 ⟨(Nat.le_of_ble_eq_true rfl), (Nat.le_of_ble_eq_true rfl)⟩ rfl (fun r w1 H locs hQ V => ?_)
      rcases hQ with ⟨rfl, rfl, f_7, f_8⟩ | ⟨rfl, rfl, f_9⟩
      · have V : gW D T A s [(o, .inr (7, [.ref n0, .ref s0, .ref im, .ref iz, .ref rw, .ref t0, .ref u0, .ref h0, .ref y0, .null])), (rw, .inl (T 5, 4, .inr (.inr (.inr (.inr (va_up (va_up (va_up (va_up (fun _ => none) 0 (some ra0)) 1 (some rb0)) 2 (some rc0)) 3 (some rd0))))))), (ra0, .inr (1, [.int (nI 0), .int (nI 0), .ref ra1, .int (nI 0)])), (ra1, .inl (T 1, 40, .inr (.inl (fun _ => 0)))), (rb0, .inr (1, [.int (nI 0), .int (nI 0), .ref rb1, .int (nI 0)])), (rb1, .inl (T 1, 40, .inr (.inl (fun _ => 0)))), (rc0, .inr (1, [.int (nI 0), .int (nI 0), .ref rc1, .int (nI 0)])), (rc1, .inl (T 1, 40, .inr (.inl (fun _ => 0)))), (rd0, .inr (1, [.int (nI 0), .int (nI 0), .ref rd1, .int (nI 0)])), (rd1, .inl (T 1, 40, .inr (.inl (fun _ => 0))))] H locs := V
        show W p l e _ s m args below meth c H locs _ _ _ (F0 m 26 ls [.int (nI 1)])
        obtain ⟨j_10, hj_10, ej_10⟩ := g_idx (n := 4) (by decide) f_1 f_2
        rw [ej_10] at hl
        have hj_10 : j_10 = 0 ∨ j_10 = 1 ∨ j_10 = 2 ∨ j_10 = 3 := by omega
        rcases hj_10 with rfl | rfl | rfl | rfl
        · skip
          refine lv_if_ne (tgt := 32) hx hb dX7_numbers_26 (by decide) (fun _ => ?_) (fun c => absurd (show (nI 1) = 0 from c) (by decide +kernel))
          refine lv_aload_n hx hb dX7_numbers_32 rfl (lv_at hl 0 rfl) ?_
          refine g_get hC V (ci := 7) uwX7 0 rfl rfl 4 (by decide) w_253 rfl rfl dX7_numbers_33 ?_
          refine lv_iload_n hx hb dX7_numbers_36 rfl (lv_at hl 1 rfl) ?_
          refine g_aald hC V 1 5 rfl rfl (vp_in_nI (by decide) (by decide)) (v := .ref ra0) (by rw [nI_clamp (by decide)]; rfl) dX7_numbers_37 ?_
          refine lv_iload_n hx hb dX7_numbers_38 rfl (lv_at hl 2 rfl) ?_
          refine lv_iload_n hx hb dX7_numbers_39 rfl (lv_at hl 3 rfl) ?_
          refine g_callV (wr := [(o, .inr (7, [.ref n0, .ref s0, .ref im, .ref iz, .ref rw, .ref t0, .ref u0, .ref h0, .ref y0, .null])), (rw, .inl (T 5, 4, .inr (.inr (.inr (.inr (va_up (va_up (va_up (va_up (fun _ => none) 0 (some ra0)) 1 (some rb0)) 2 (some rc0)) 3 (some rd0))))))), (rb0, .inr (1, [.int (nI 0), .int (nI 0), .ref rb1, .int (nI 0)])), (rb1, .inl (T 1, 40, .inr (.inl (fun _ => 0)))), (rc0, .inr (1, [.int (nI 0), .int (nI 0), .ref rc1, .int (nI 0)])), (rc1, .inl (T 1, 40, .inr (.inl (fun _ => 0)))), (rd0, .inr (1, [.int (nI 0), .int (nI 0), .ref rd1, .int (nI 0)])), (rd1, .inl (T 1, 40, .inr (.inl (fun _ => 0))))]) (nA := 2) hC V hl.1 (c_begin l D T ra0 sort n (nI 0) (nI 0) ra1 (nI 0) (fun _ => 0)) w_859 w_860 w_861 w_8 w_862 (by decide +kernel) rfl ⟨(Nat.le_of_ble_eq_true rfl), (Nat.le_of_ble_eq_true rfl)⟩ 2 (ci := 1) rfl rfl [2, 3] [0, 1, 4, 5, 6, 7, 8, 9] rfl rfl rfl rfl (by decide) (Nat.le_of_ble_eq_true rfl) dX7_numbers_40 ⟨(Nat.le_of_ble_eq_true rfl), (Nat.le_of_ble_eq_true rfl)⟩ rfl (fun r w1 H locs hQ V => ?_)
          obtain ⟨g_11, rfl, rfl⟩ := hQ
          have V : gW D T A s [(o, .inr (7, [.ref n0, .ref s0, .ref im, .ref iz, .ref rw, .ref t0, .ref u0, .ref h0, .ref y0, .null])), (rw, .inl (T 5, 4, .inr (.inr (.inr (.inr (va_up (va_up (va_up (va_up (fun _ => none) 0 (some ra0)) 1 (some rb0)) 2 (some rc0)) 3 (some rd0))))))), (rb0, .inr (1, [.int (nI 0), .int (nI 0), .ref rb1, .int (nI 0)])), (rb1, .inl (T 1, 40, .inr (.inl (fun _ => 0)))), (rc0, .inr (1, [.int (nI 0), .int (nI 0), .ref rc1, .int (nI 0)])), (rc1, .inl (T 1, 40, .inr (.inl (fun _ => 0)))), (rd0, .inr (1, [.int (nI 0), .int (nI 0), .ref rd1, .int (nI 0)])), (rd1, .inl (T 1, 40, .inr (.inl (fun _ => 0)))), (ra0, .inr (1, [.int (nI 1), .int n, .ref ra1, .int sort])), (ra1, .inl (T 1, 40, .inr (.inl g_11)))] H locs := V
          show W p l e _ s m args below meth c H locs _ _ _ (F0 m 43 ls [])
          refine lv_iconst (v := (nI 0)) hx hb dX7_numbers_43 (by decide +kernel) ?_
          have V := V.sub (ws' := []) [] rfl rfl
          exact g_iret (Qr := (q_X7_numbers T o row sort n n0 s0 im iz rw t0 u0 h0 y0 ra0 rb0 rc0 rd0 ra1 rb1 rc1 rd1)) hC V ⟨(Nat.le_of_ble_eq_true rfl), (Nat.le_of_ble_eq_true rfl)⟩ ⟨(nI 0), rfl, rfl, (by first | exact pf_numbers_1 ‹_› | exact pf_numbers_2 ‹_› | exact pf_numbers_3 ‹_› ‹_› ‹_› ‹_› ‹_› | exact pf_numbers_4 ‹_› ‹_› ‹_› ‹_› ‹_› ‹_›)⟩ dX7_numbers_44
        · skip
          refine lv_if_ne (tgt := 32) hx hb dX7_numbers_26 (by decide) (fun _ => ?_) (fun c => absurd (show (nI 1) = 0 from c) (by decide +kernel))
          refine lv_aload_n hx hb dX7_numbers_32 rfl (lv_at hl 0 rfl) ?_
          refine g_get hC V (ci := 7) uwX7 0 rfl rfl 4 (by decide) w_253 rfl rfl dX7_numbers_33 ?_
          refine lv_iload_n hx hb dX7_numbers_36 rfl (lv_at hl 1 rfl) ?_
          refine g_aald hC V 1 5 rfl rfl (vp_in_nI (by decide) (by decide)) (v := .ref rb0) (by rw [nI_clamp (by decide)]; rfl) dX7_numbers_37 ?_
          refine lv_iload_n hx hb dX7_numbers_38 rfl (lv_at hl 2 rfl) ?_
          refine lv_iload_n hx hb dX7_numbers_39 rfl (lv_at hl 3 rfl) ?_
          refine g_callV (wr := [(o, .inr (7, [.ref n0, .ref s0, .ref im, .ref iz, .ref rw, .ref t0, .ref u0, .ref h0, .ref y0, .null])), (rw, .inl (T 5, 4, .inr (.inr (.inr (.inr (va_up (va_up (va_up (va_up (fun _ => none) 0 (some ra0)) 1 (some rb0)) 2 (some rc0)) 3 (some rd0))))))), (ra0, .inr (1, [.int (nI 0), .int (nI 0), .ref ra1, .int (nI 0)])), (ra1, .inl (T 1, 40, .inr (.inl (fun _ => 0)))), (rc0, .inr (1, [.int (nI 0), .int (nI 0), .ref rc1, .int (nI 0)])), (rc1, .inl (T 1, 40, .inr (.inl (fun _ => 0)))), (rd0, .inr (1, [.int (nI 0), .int (nI 0), .ref rd1, .int (nI 0)])), (rd1, .inl (T 1, 40, .inr (.inl (fun _ => 0))))]) (nA := 2) hC V hl.1 (c_begin l D T rb0 sort n (nI 0) (nI 0) rb1 (nI 0) (fun _ => 0)) w_859 w_860 w_861 w_8 w_862 (by decide +kernel) rfl ⟨(Nat.le_of_ble_eq_true rfl), (Nat.le_of_ble_eq_true rfl)⟩ 4 (ci := 1) rfl rfl [4, 5] [0, 1, 2, 3, 6, 7, 8, 9] rfl rfl rfl rfl (by decide) (Nat.le_of_ble_eq_true rfl) dX7_numbers_40 ⟨(Nat.le_of_ble_eq_true rfl), (Nat.le_of_ble_eq_true rfl)⟩ rfl (fun r w1 H locs hQ V => ?_)
          obtain ⟨g_12, rfl, rfl⟩ := hQ
          have V : gW D T A s [(o, .inr (7, [.ref n0, .ref s0, .ref im, .ref iz, .ref rw, .ref t0, .ref u0, .ref h0, .ref y0, .null])), (rw, .inl (T 5, 4, .inr (.inr (.inr (.inr (va_up (va_up (va_up (va_up (fun _ => none) 0 (some ra0)) 1 (some rb0)) 2 (some rc0)) 3 (some rd0))))))), (ra0, .inr (1, [.int (nI 0), .int (nI 0), .ref ra1, .int (nI 0)])), (ra1, .inl (T 1, 40, .inr (.inl (fun _ => 0)))), (rc0, .inr (1, [.int (nI 0), .int (nI 0), .ref rc1, .int (nI 0)])), (rc1, .inl (T 1, 40, .inr (.inl (fun _ => 0)))), (rd0, .inr (1, [.int (nI 0), .int (nI 0), .ref rd1, .int (nI 0)])), (rd1, .inl (T 1, 40, .inr (.inl (fun _ => 0)))), (rb0, .inr (1, [.int (nI 1), .int n, .ref rb1, .int sort])), (rb1, .inl (T 1, 40, .inr (.inl g_12)))] H locs := V
          show W p l e _ s m args below meth c H locs _ _ _ (F0 m 43 ls [])
          refine lv_iconst (v := (nI 0)) hx hb dX7_numbers_43 (by decide +kernel) ?_
          have V := V.sub (ws' := []) [] rfl rfl
          exact g_iret (Qr := (q_X7_numbers T o row sort n n0 s0 im iz rw t0 u0 h0 y0 ra0 rb0 rc0 rd0 ra1 rb1 rc1 rd1)) hC V ⟨(Nat.le_of_ble_eq_true rfl), (Nat.le_of_ble_eq_true rfl)⟩ ⟨(nI 0), rfl, rfl, (by first | exact pf_numbers_1 ‹_› | exact pf_numbers_2 ‹_› | exact pf_numbers_3 ‹_› ‹_› ‹_› ‹_› ‹_› | exact pf_numbers_4 ‹_› ‹_› ‹_› ‹_› ‹_› ‹_›)⟩ dX7_numbers_44
        · skip
          refine lv_if_ne (tgt := 32) hx hb dX7_numbers_26 (by decide) (fun _ => ?_) (fun c => absurd (show (nI 1) = 0 from c) (by decide +kernel))
          refine lv_aload_n hx hb dX7_numbers_32 rfl (lv_at hl 0 rfl) ?_
          refine g_get hC V (ci := 7) uwX7 0 rfl rfl 4 (by decide) w_253 rfl rfl dX7_numbers_33 ?_
          refine lv_iload_n hx hb dX7_numbers_36 rfl (lv_at hl 1 rfl) ?_
          refine g_aald hC V 1 5 rfl rfl (vp_in_nI (by decide) (by decide)) (v := .ref rc0) (by rw [nI_clamp (by decide)]; rfl) dX7_numbers_37 ?_
          refine lv_iload_n hx hb dX7_numbers_38 rfl (lv_at hl 2 rfl) ?_
          refine lv_iload_n hx hb dX7_numbers_39 rfl (lv_at hl 3 rfl) ?_
          refine g_callV (wr := [(o, .inr (7, [.ref n0, .ref s0, .ref im, .ref iz, .ref rw, .ref t0, .ref u0, .ref h0, .ref y0, .null])), (rw, .inl (T 5, 4, .inr (.inr (.inr (.inr (va_up (va_up (va_up (va_up (fun _ => none) 0 (some ra0)) 1 (some rb0)) 2 (some rc0)) 3 (some rd0))))))), (ra0, .inr (1, [.int (nI 0), .int (nI 0), .ref ra1, .int (nI 0)])), (ra1, .inl (T 1, 40, .inr (.inl (fun _ => 0)))), (rb0, .inr (1, [.int (nI 0), .int (nI 0), .ref rb1, .int (nI 0)])), (rb1, .inl (T 1, 40, .inr (.inl (fun _ => 0)))), (rd0, .inr (1, [.int (nI 0), .int (nI 0), .ref rd1, .int (nI 0)])), (rd1, .inl (T 1, 40, .inr (.inl (fun _ => 0))))]) (nA := 2) hC V hl.1 (c_begin l D T rc0 sort n (nI 0) (nI 0) rc1 (nI 0) (fun _ => 0)) w_859 w_860 w_861 w_8 w_862 (by decide +kernel) rfl ⟨(Nat.le_of_ble_eq_true rfl), (Nat.le_of_ble_eq_true rfl)⟩ 6 (ci := 1) rfl rfl [6, 7] [0, 1, 2, 3, 4, 5, 8, 9] rfl rfl rfl rfl (by decide) (Nat.le_of_ble_eq_true rfl) dX7_numbers_40 ⟨(Nat.le_of_ble_eq_true rfl), (Nat.le_of_ble_eq_true rfl)⟩ rfl (fun r w1 H locs hQ V => ?_)
          obtain ⟨g_13, rfl, rfl⟩ := hQ
          have V : gW D T A s [(o, .inr (7, [.ref n0, .ref s0, .ref im, .ref iz, .ref rw, .ref t0, .ref u0, .ref h0, .ref y0, .null])), (rw, .inl (T 5, 4, .inr (.inr (.inr (.inr (va_up (va_up (va_up (va_up (fun _ => none) 0 (some ra0)) 1 (some rb0)) 2 (some rc0)) 3 (some rd0))))))), (ra0, .inr (1, [.int (nI 0), .int (nI 0), .ref ra1, .int (nI 0)])), (ra1, .inl (T 1, 40, .inr (.inl (fun _ => 0)))), (rb0, .inr (1, [.int (nI 0), .int (nI 0), .ref rb1, .int (nI 0)])), (rb1, .inl (T 1, 40, .inr (.inl (fun _ => 0)))), (rd0, .inr (1, [.int (nI 0), .int (nI 0), .ref rd1, .int (nI 0)])), (rd1, .inl (T 1, 40, .inr (.inl (fun _ => 0)))), (rc0, .inr (1, [.int (nI 1), .int n, .ref rc1, .int sort])), (rc1, .inl (T 1, 40, .inr (.inl g_13)))] H locs := V
          show W p l e _ s m args below meth c H locs _ _ _ (F0 m 43 ls [])
          refine lv_iconst (v := (nI 0)) hx hb dX7_numbers_43 (by decide +kernel) ?_
          have V := V.sub (ws' := []) [] rfl rfl
          exact g_iret (Qr := (q_X7_numbers T o row sort n n0 s0 im iz rw t0 u0 h0 y0 ra0 rb0 rc0 rd0 ra1 rb1 rc1 rd1)) hC V ⟨(Nat.le_of_ble_eq_true rfl), (Nat.le_of_ble_eq_true rfl)⟩ ⟨(nI 0), rfl, rfl, (by first | exact pf_numbers_1 ‹_› | exact pf_numbers_2 ‹_› | exact pf_numbers_3 ‹_› ‹_› ‹_› ‹_› ‹_› | exact pf_numbers_4 ‹_› ‹_› ‹_› ‹_› ‹_› ‹_›)⟩ dX7_numbers_44
        · skip
          refine lv_if_ne (tgt := 32) hx hb dX7_numbers_26 (by decide) (fun _ => ?_) (fun c => absurd (show (nI 1) = 0 from c) (by decide +kernel))
          refine lv_aload_n hx hb dX7_numbers_32 rfl (lv_at hl 0 rfl) ?_
          refine g_get hC V (ci := 7) uwX7 0 rfl rfl 4 (by decide) w_253 rfl rfl dX7_numbers_33 ?_
          refine lv_iload_n hx hb dX7_numbers_36 rfl (lv_at hl 1 rfl) ?_
          refine g_aald hC V 1 5 rfl rfl (vp_in_nI (by decide) (by decide)) (v := .ref rd0) (by rw [nI_clamp (by decide)]; rfl) dX7_numbers_37 ?_
          refine lv_iload_n hx hb dX7_numbers_38 rfl (lv_at hl 2 rfl) ?_
          refine lv_iload_n hx hb dX7_numbers_39 rfl (lv_at hl 3 rfl) ?_
          refine g_callV (wr := [(o, .inr (7, [.ref n0, .ref s0, .ref im, .ref iz, .ref rw, .ref t0, .ref u0, .ref h0, .ref y0, .null])), (rw, .inl (T 5, 4, .inr (.inr (.inr (.inr (va_up (va_up (va_up (va_up (fun _ => none) 0 (some ra0)) 1 (some rb0)) 2 (some rc0)) 3 (some rd0))))))), (ra0, .inr (1, [.int (nI 0), .int (nI 0), .ref ra1, .int (nI 0)])), (ra1, .inl (T 1, 40, .inr (.inl (fun _ => 0)))), (rb0, .inr (1, [.int (nI 0), .int (nI 0), .ref rb1, .int (nI 0)])), (rb1, .inl (T 1, 40, .inr (.inl (fun _ => 0)))), (rc0, .inr (1, [.int (nI 0), .int (nI 0), .ref rc1, .int (nI 0)])), (rc1, .inl (T 1, 40, .inr (.inl (fun _ => 0))))]) (nA := 2) hC V hl.1 (c_begin l D T rd0 sort n (nI 0) (nI 0) rd1 (nI 0) (fun _ => 0)) w_859 w_860 w_861 w_8 w_862 (by decide +kernel) rfl ⟨(Nat.le_of_ble_eq_true rfl), (Nat.le_of_ble_eq_true rfl)⟩ 8 (ci := 1) rfl rfl [8, 9] [0, 1, 2, 3, 4, 5, 6, 7] rfl rfl rfl rfl (by decide) (Nat.le_of_ble_eq_true rfl) dX7_numbers_40 ⟨(Nat.le_of_ble_eq_true rfl), (Nat.le_of_ble_eq_true rfl)⟩ rfl (fun r w1 H locs hQ V => ?_)
          obtain ⟨g_14, rfl, rfl⟩ := hQ
          have V : gW D T A s [(o, .inr (7, [.ref n0, .ref s0, .ref im, .ref iz, .ref rw, .ref t0, .ref u0, .ref h0, .ref y0, .null])), (rw, .inl (T 5, 4, .inr (.inr (.inr (.inr (va_up (va_up (va_up (va_up (fun _ => none) 0 (some ra0)) 1 (some rb0)) 2 (some rc0)) 3 (some rd0))))))), (ra0, .inr (1, [.int (nI 0), .int (nI 0), .ref ra1, .int (nI 0)])), (ra1, .inl (T 1, 40, .inr (.inl (fun _ => 0)))), (rb0, .inr (1, [.int (nI 0), .int (nI 0), .ref rb1, .int (nI 0)])), (rb1, .inl (T 1, 40, .inr (.inl (fun _ => 0)))), (rc0, .inr (1, [.int (nI 0), .int (nI 0), .ref rc1, .int (nI 0)])), (rc1, .inl (T 1, 40, .inr (.inl (fun _ => 0)))), (rd0, .inr (1, [.int (nI 1), .int n, .ref rd1, .int sort])), (rd1, .inl (T 1, 40, .inr (.inl g_14)))] H locs := V
          show W p l e _ s m args below meth c H locs _ _ _ (F0 m 43 ls [])
          refine lv_iconst (v := (nI 0)) hx hb dX7_numbers_43 (by decide +kernel) ?_
          have V := V.sub (ws' := []) [] rfl rfl
          exact g_iret (Qr := (q_X7_numbers T o row sort n n0 s0 im iz rw t0 u0 h0 y0 ra0 rb0 rc0 rd0 ra1 rb1 rc1 rd1)) hC V ⟨(Nat.le_of_ble_eq_true rfl), (Nat.le_of_ble_eq_true rfl)⟩ ⟨(nI 0), rfl, rfl, (by first | exact pf_numbers_1 ‹_› | exact pf_numbers_2 ‹_› | exact pf_numbers_3 ‹_› ‹_› ‹_› ‹_› ‹_› | exact pf_numbers_4 ‹_› ‹_› ‹_› ‹_› ‹_› ‹_›)⟩ dX7_numbers_44
      · have V : gW D T A s [(o, .inr (7, [.ref n0, .ref s0, .ref im, .ref iz, .ref rw, .ref t0, .ref u0, .ref h0, .ref y0, .null])), (rw, .inl (T 5, 4, .inr (.inr (.inr (.inr (va_up (va_up (va_up (va_up (fun _ => none) 0 (some ra0)) 1 (some rb0)) 2 (some rc0)) 3 (some rd0))))))), (ra0, .inr (1, [.int (nI 0), .int (nI 0), .ref ra1, .int (nI 0)])), (ra1, .inl (T 1, 40, .inr (.inl (fun _ => 0)))), (rb0, .inr (1, [.int (nI 0), .int (nI 0), .ref rb1, .int (nI 0)])), (rb1, .inl (T 1, 40, .inr (.inl (fun _ => 0)))), (rc0, .inr (1, [.int (nI 0), .int (nI 0), .ref rc1, .int (nI 0)])), (rc1, .inl (T 1, 40, .inr (.inl (fun _ => 0)))), (rd0, .inr (1, [.int (nI 0), .int (nI 0), .ref rd1, .int (nI 0)])), (rd1, .inl (T 1, 40, .inr (.inl (fun _ => 0))))] H locs := V
        show W p l e _ s m args below meth c H locs _ _ _ (F0 m 26 ls [.int (nI 0)])
        refine lv_if_ne (tgt := 32) hx hb dX7_numbers_26 (by decide) (fun c => absurd (show (nI 0) = 0 by decide +kernel) c) (fun _ => ?_)
        refine lv_bipush (v := (-3)) hx hb dX7_numbers_29 (by decide +kernel) ?_
        have V := V.sub (ws' := []) [] rfl rfl
        exact g_iret (Qr := (q_X7_numbers T o row sort n n0 s0 im iz rw t0 u0 h0 y0 ra0 rb0 rc0 rd0 ra1 rb1 rc1 rd1)) hC V ⟨(Nat.le_of_ble_eq_true rfl), (Nat.le_of_ble_eq_true rfl)⟩ ⟨(-3), rfl, rfl, (by first | exact pf_numbers_1 ‹_› | exact pf_numbers_2 ‹_› | exact pf_numbers_3 ‹_› ‹_› ‹_› ‹_› ‹_› | exact pf_numbers_4 ‹_› ‹_› ‹_› ‹_› ‹_› ‹_›)⟩ dX7_numbers_31
    · have V : gW D T A s [(o, .inr (7, [.ref n0, .ref s0, .ref im, .ref iz, .ref rw, .ref t0, .ref u0, .ref h0, .ref y0, .null])), (rw, .inl (T 5, 4, .inr (.inr (.inr (.inr (va_up (va_up (va_up (va_up (fun _ => none) 0 (some ra0)) 1 (some rb0)) 2 (some rc0)) 3 (some rd0))))))), (ra0, .inr (1, [.int (nI 0), .int (nI 0), .ref ra1, .int (nI 0)])), (ra1, .inl (T 1, 40, .inr (.inl (fun _ => 0)))), (rb0, .inr (1, [.int (nI 0), .int (nI 0), .ref rb1, .int (nI 0)])), (rb1, .inl (T 1, 40, .inr (.inl (fun _ => 0)))), (rc0, .inr (1, [.int (nI 0), .int (nI 0), .ref rc1, .int (nI 0)])), (rc1, .inl (T 1, 40, .inr (.inl (fun _ => 0)))), (rd0, .inr (1, [.int (nI 0), .int (nI 0), .ref rd1, .int (nI 0)])), (rd1, .inl (T 1, 40, .inr (.inl (fun _ => 0))))] H locs := V
      show W p l e _ s m args below meth c H locs _ _ _ (F0 m 13 ls [.int (nI 0)])
      refine lv_if_ne (tgt := 19) hx hb dX7_numbers_13 (by decide) (fun c => absurd (show (nI 0) = 0 by decide +kernel) c) (fun _ => ?_)
      refine lv_bipush (v := (-2)) hx hb dX7_numbers_16 (by decide +kernel) ?_
      have V := V.sub (ws' := []) [] rfl rfl
      exact g_iret (Qr := (q_X7_numbers T o row sort n n0 s0 im iz rw t0 u0 h0 y0 ra0 rb0 rc0 rd0 ra1 rb1 rc1 rd1)) hC V ⟨(Nat.le_of_ble_eq_true rfl), (Nat.le_of_ble_eq_true rfl)⟩ ⟨(-2), rfl, rfl, (by first | exact pf_numbers_1 ‹_› | exact pf_numbers_2 ‹_› | exact pf_numbers_3 ‹_› ‹_› ‹_› ‹_› ‹_› | exact pf_numbers_4 ‹_› ‹_› ‹_› ‹_› ‹_› ‹_›)⟩ dX7_numbers_18
  · have V : gW D T A s [(o, .inr (7, [.ref n0, .ref s0, .ref im, .ref iz, .ref rw, .ref t0, .ref u0, .ref h0, .ref y0, .null])), (rw, .inl (T 5, 4, .inr (.inr (.inr (.inr (va_up (va_up (va_up (va_up (fun _ => none) 0 (some ra0)) 1 (some rb0)) 2 (some rc0)) 3 (some rd0))))))), (ra0, .inr (1, [.int (nI 0), .int (nI 0), .ref ra1, .int (nI 0)])), (ra1, .inl (T 1, 40, .inr (.inl (fun _ => 0)))), (rb0, .inr (1, [.int (nI 0), .int (nI 0), .ref rb1, .int (nI 0)])), (rb1, .inl (T 1, 40, .inr (.inl (fun _ => 0)))), (rc0, .inr (1, [.int (nI 0), .int (nI 0), .ref rc1, .int (nI 0)])), (rc1, .inl (T 1, 40, .inr (.inl (fun _ => 0)))), (rd0, .inr (1, [.int (nI 0), .int (nI 0), .ref rd1, .int (nI 0)])), (rd1, .inl (T 1, 40, .inr (.inl (fun _ => 0))))] H locs := V
    show W p l e _ s m args below meth c H locs _ _ _ (F0 m 4 ls [.int (nI 0)])
    refine lv_if_eq (tgt := 16) hx hb dX7_numbers_4 (by decide) (fun _ => ?_) (fun c => absurd (show (nI 0) = 0 by decide +kernel) c)
    refine lv_bipush (v := (-2)) hx hb dX7_numbers_16 (by decide +kernel) ?_
    have V := V.sub (ws' := []) [] rfl rfl
    exact g_iret (Qr := (q_X7_numbers T o row sort n n0 s0 im iz rw t0 u0 h0 y0 ra0 rb0 rc0 rd0 ra1 rb1 rc1 rd1)) hC V ⟨(Nat.le_of_ble_eq_true rfl), (Nat.le_of_ble_eq_true rfl)⟩ ⟨(-2), rfl, rfl, (by first | exact pf_numbers_1 ‹_› | exact pf_numbers_2 ‹_› | exact pf_numbers_3 ‹_› ‹_› ‹_› ‹_› ‹_› | exact pf_numbers_4 ‹_› ‹_› ‹_› ‹_› ‹_› ‹_›)⟩ dX7_numbers_18

def q_X7_image (T : Nat → ClassId) (o : Nat) (i : Int32) (n0 : Nat) (s0 : Nat) (im : Nat) (iz : Nat) (rw : Nat) (t0 : Nat) (u0 : Nat) (h0 : Nat) (y0 : Nat) (i0 : Nat) (j0 : Nat) (n1 : Nat) (n2 : Nat) (n3 : Nat) (n4 : Nat) (n5 : Nat) (n6 : Nat) (n7 : Nat) (n8 : Nat) (n9 : Nat) (n10 : Nat) (i1 : Nat) (i2 : Nat) (i3 : Nat) (i4 : Nat) (i5 : Nat) (i6 : Nat) (i7 : Nat) (i8 : Nat) (i9 : Nat) (i10 : Nat) (j1 : Nat) (j2 : Nat) (j3 : Nat) (j4 : Nat) (j5 : Nat) (j6 : Nat) (j7 : Nat) (j8 : Nat) (j9 : Nat) (j10 : Nat) : Option Value → va_W → Prop := fun rr ww => (∃ (z : Int32), rr = some (.int z) ∧ ww = [] ∧ z = pf_image i)
set_option maxHeartbeats 4000000 in
set_option maxRecDepth 100000 in
theorem p_X7_image (l : Launch) (D : va_G) (T : Nat → ClassId) (o : Nat) (i : Int32) (n0 : Nat) (s0 : Nat) (im : Nat) (iz : Nat) (rw : Nat) (t0 : Nat) (u0 : Nat) (h0 : Nat) (y0 : Nat) (i0 : Nat) (j0 : Nat) (n1 : Nat) (n2 : Nat) (n3 : Nat) (n4 : Nat) (n5 : Nat) (n6 : Nat) (n7 : Nat) (n8 : Nat) (n9 : Nat) (n10 : Nat) (i1 : Nat) (i2 : Nat) (i3 : Nat) (i4 : Nat) (i5 : Nat) (i6 : Nat) (i7 : Nat) (i8 : Nat) (i9 : Nat) (i10 : Nat) (j1 : Nat) (j2 : Nat) (j3 : Nat) (j4 : Nat) (j5 : Nat) (j6 : Nat) (j7 : Nat) (j8 : Nat) (j9 : Nat) (j10 : Nat) : Ct l yX7_image cX7_image 2 (some .int) 1 0 0 D T [.ref o, .int i] [(o, .inr (7, [.ref n0, .ref s0, .ref im, .ref iz, .ref rw, .ref t0, .ref u0, .ref h0, .ref y0, .null])), (im, .inl (T 4, 2, .inr (.inr (.inr (.inr (va_up (va_up (fun _ => none) 0 (some i0)) 1 (some j0))))))), (iz, .inl (T 2, 2, .inl (fun _ => nI 0))), (n0, .inr (5, [.int (nI 0), .int (nI 0), .int (nI 0), .int (nI 20), .int (nI 0), .ref n1, .ref n2, .ref n3, .ref n4, .ref n5, .ref n6, .ref n7, .ref n8, .ref n9, .ref n10])), (i0, .inr (5, [.int (nI 0), .int (nI 0), .int (nI 0), .int (nI 20), .int (nI 0), .ref i1, .ref i2, .ref i3, .ref i4, .ref i5, .ref i6, .ref i7, .ref i8, .ref i9, .ref i10])), (j0, .inr (5, [.int (nI 0), .int (nI 0), .int (nI 0), .int (nI 20), .int (nI 0), .ref j1, .ref j2, .ref j3, .ref j4, .ref j5, .ref j6, .ref j7, .ref j8, .ref j9, .ref j10]))] (q_X7_image T o i n0 s0 im iz rw t0 u0 h0 y0 i0 j0 n1 n2 n3 n4 n5 n6 n7 n8 n9 n10 i1 i2 i3 i4 i5 i6 i7 i8 i9 i10 j1 j2 j3 j4 j5 j6 j7 j8 j9 j10) := by
  refine Ct.of (cc := cX7_image) (maxL := 2) (ret := (some .int)) (by decide) (Nat.le_of_ble_eq_true rfl) ?_
  intro p e s m args below meth c A ls hC hnm V hl
  obtain ⟨hx, hb, hr, hml, hown, hts, hlocks⟩ := id hC
  generalize hH : s.heap = H at V ⊢
  clear hH
  have hl : lv_has ls 2 [(0, .ref o), (1, .int i)] := hl
  generalize hlo : ([] : List Loc) = locs at V ⊢
  clear hlo
  refine lv_iload_n hx hb dX7_image_0 rfl (lv_at hl 1 rfl) ?_
  refine g_callS (wr := [(o, .inr (7, [.ref n0, .ref s0, .ref im, .ref iz, .ref rw, .ref t0, .ref u0, .ref h0, .ref y0, .null])), (im, .inl (T 4, 2, .inr (.inr (.inr (.inr (va_up (va_up (fun _ => none) 0 (some i0)) 1 (some j0))))))), (iz, .inl (T 2, 2, .inl (fun _ => nI 0))), (n0, .inr (5, [.int (nI 0), .int (nI 0), .int (nI 0), .int (nI 20), .int (nI 0), .ref n1, .ref n2, .ref n3, .ref n4, .ref n5, .ref n6, .ref n7, .ref n8, .ref n9, .ref n10])), (i0, .inr (5, [.int (nI 0), .int (nI 0), .int (nI 0), .int (nI 20), .int (nI 0), .ref i1, .ref i2, .ref i3, .ref i4, .ref i5, .ref i6, .ref i7, .ref i8, .ref i9, .ref i10])), (j0, .inr (5, [.int (nI 0), .int (nI 0), .int (nI 0), .int (nI 20), .int (nI 0), .ref j1, .ref j2, .ref j3, .ref j4, .ref j5, .ref j6, .ref j7, .ref j8, .ref j9, .ref j10]))]) (nA := 1) hC V hl.1 (c_isImage l D T i) w_887 w_888 w_2 w_889 (by decide +kernel) rfl ⟨(Nat.le_of_ble_eq_true rfl), (Nat.le_of_ble_eq_true rfl)⟩ [] [0, 1, 2, 3, 4, 5] rfl rfl rfl rfl (by decide) (Nat.le_of_ble_eq_true rfl) dX7_image_1 ⟨(Nat.le_of_ble_eq_true rfl), (Nat.le_of_ble_eq_true rfl)⟩ rfl (fun r w1 H locs hQ V => ?_)
  rcases hQ with ⟨rfl, rfl, f_1, f_2⟩ | ⟨rfl, rfl, f_3⟩
  · have V : gW D T A s [(o, .inr (7, [.ref n0, .ref s0, .ref im, .ref iz, .ref rw, .ref t0, .ref u0, .ref h0, .ref y0, .null])), (im, .inl (T 4, 2, .inr (.inr (.inr (.inr (va_up (va_up (fun _ => none) 0 (some i0)) 1 (some j0))))))), (iz, .inl (T 2, 2, .inl (fun _ => nI 0))), (n0, .inr (5, [.int (nI 0), .int (nI 0), .int (nI 0), .int (nI 20), .int (nI 0), .ref n1, .ref n2, .ref n3, .ref n4, .ref n5, .ref n6, .ref n7, .ref n8, .ref n9, .ref n10])), (i0, .inr (5, [.int (nI 0), .int (nI 0), .int (nI 0), .int (nI 20), .int (nI 0), .ref i1, .ref i2, .ref i3, .ref i4, .ref i5, .ref i6, .ref i7, .ref i8, .ref i9, .ref i10])), (j0, .inr (5, [.int (nI 0), .int (nI 0), .int (nI 0), .int (nI 20), .int (nI 0), .ref j1, .ref j2, .ref j3, .ref j4, .ref j5, .ref j6, .ref j7, .ref j8, .ref j9, .ref j10]))] H locs := V
    show W p l e _ s m args below meth c H locs _ _ _ (F0 m 4 ls [.int (nI 1)])
    obtain ⟨j_4, hj_4, ej_4⟩ := g_idx (n := 2) (by decide) f_1 f_2
    rw [ej_4] at hl
    have hj_4 : j_4 = 0 ∨ j_4 = 1 := by omega
    rcases hj_4 with rfl | rfl
    · skip
      refine lv_if_ne (tgt := 10) hx hb dX7_image_4 (by decide) (fun _ => ?_) (fun c => absurd (show (nI 1) = 0 from c) (by decide +kernel))
      refine lv_aload_n hx hb dX7_image_10 rfl (lv_at hl 0 rfl) ?_
      refine g_get hC V (ci := 7) uwX7 0 rfl rfl 2 (by decide) w_251 rfl rfl dX7_image_11 ?_
      refine lv_iload_n hx hb dX7_image_14 rfl (lv_at hl 1 rfl) ?_
      refine g_aald hC V 1 4 rfl rfl (vp_in_nI (by decide) (by decide)) (v := .ref i0) (by rw [nI_clamp (by decide)]; rfl) dX7_image_15 ?_
      refine lv_aload_n hx hb dX7_image_16 rfl (lv_at hl 0 rfl) ?_
      refine g_get hC V (ci := 7) uwX7 0 rfl rfl 0 (by decide) w_249 rfl rfl dX7_image_17 ?_
      refine g_callV (wr := [(o, .inr (7, [.ref n0, .ref s0, .ref im, .ref iz, .ref rw, .ref t0, .ref u0, .ref h0, .ref y0, .null])), (im, .inl (T 4, 2, .inr (.inr (.inr (.inr (va_up (va_up (fun _ => none) 0 (some i0)) 1 (some j0))))))), (iz, .inl (T 2, 2, .inl (fun _ => nI 0))), (j0, .inr (5, [.int (nI 0), .int (nI 0), .int (nI 0), .int (nI 20), .int (nI 0), .ref j1, .ref j2, .ref j3, .ref j4, .ref j5, .ref j6, .ref j7, .ref j8, .ref j9, .ref j10]))]) (nA := 1) hC V hl.1 (c_takeFrom l D T i0 n0 (nI 0) (nI 0) (nI 0) (nI 20) (nI 0) i1 i2 i3 i4 i5 i6 i7 i8 i9 i10 0 n1 n2 n3 n4 n5 n6 n7 n8 n9 n10) w_413 w_414 w_415 w_3 w_416 (by decide +kernel) rfl ⟨(Nat.le_of_ble_eq_true rfl), (Nat.le_of_ble_eq_true rfl)⟩ 4 (ci := 5) rfl rfl [4, 3] [0, 1, 2, 5] rfl rfl rfl rfl (by decide) (Nat.le_of_ble_eq_true rfl) dX7_image_20 ⟨(Nat.le_of_ble_eq_true rfl), (Nat.le_of_ble_eq_true rfl)⟩ rfl (fun r w1 H locs hQ V => ?_)
      obtain ⟨rfl, rfl⟩ := hQ
      have V : gW D T A s [(o, .inr (7, [.ref n0, .ref s0, .ref im, .ref iz, .ref rw, .ref t0, .ref u0, .ref h0, .ref y0, .null])), (im, .inl (T 4, 2, .inr (.inr (.inr (.inr (va_up (va_up (fun _ => none) 0 (some i0)) 1 (some j0))))))), (iz, .inl (T 2, 2, .inl (fun _ => nI 0))), (j0, .inr (5, [.int (nI 0), .int (nI 0), .int (nI 0), .int (nI 20), .int (nI 0), .ref j1, .ref j2, .ref j3, .ref j4, .ref j5, .ref j6, .ref j7, .ref j8, .ref j9, .ref j10])), (i0, .inr (5, [.int (nI 0), .int (nI 0), .int (nI 0), .int (nI 20), .int (nI 0), .ref i1, .ref i2, .ref i3, .ref i4, .ref i5, .ref i6, .ref i7, .ref i8, .ref i9, .ref i10])), (n0, .inr (5, [.int (nI 0), .int (nI 0), .int (nI 0), .int (nI 20), .int (nI 0), .ref n1, .ref n2, .ref n3, .ref n4, .ref n5, .ref n6, .ref n7, .ref n8, .ref n9, .ref n10]))] H locs := V
      show W p l e _ s m args below meth c H locs _ _ _ (F0 m 23 ls [])
      refine lv_aload_n hx hb dX7_image_23 rfl (lv_at hl 0 rfl) ?_
      refine g_get hC V (ci := 7) uwX7 0 rfl rfl 3 (by decide) w_252 rfl rfl dX7_image_24 ?_
      refine lv_iload_n hx hb dX7_image_27 rfl (lv_at hl 1 rfl) ?_
      refine lv_iconst (v := (nI 1)) hx hb dX7_image_28 (by decide +kernel) ?_
      refine g_zast hC V 2 rfl (vp_in_nI (by decide) (by decide)) (f' := (upd (fun _ => nI 0) 0 (vp_nar .boolean (nI 1)))) (by rw [nI_clamp (by decide)]) (ws' := [(o, .inr (7, [.ref n0, .ref s0, .ref im, .ref iz, .ref rw, .ref t0, .ref u0, .ref h0, .ref y0, .null])), (im, .inl (T 4, 2, .inr (.inr (.inr (.inr (va_up (va_up (fun _ => none) 0 (some i0)) 1 (some j0))))))), (iz, .inl (T 2, 2, .inl (upd (fun _ => nI 0) 0 (vp_nar .boolean (nI 1))))), (j0, .inr (5, [.int (nI 0), .int (nI 0), .int (nI 0), .int (nI 20), .int (nI 0), .ref j1, .ref j2, .ref j3, .ref j4, .ref j5, .ref j6, .ref j7, .ref j8, .ref j9, .ref j10])), (i0, .inr (5, [.int (nI 0), .int (nI 0), .int (nI 0), .int (nI 20), .int (nI 0), .ref i1, .ref i2, .ref i3, .ref i4, .ref i5, .ref i6, .ref i7, .ref i8, .ref i9, .ref i10])), (n0, .inr (5, [.int (nI 0), .int (nI 0), .int (nI 0), .int (nI 20), .int (nI 0), .ref n1, .ref n2, .ref n3, .ref n4, .ref n5, .ref n6, .ref n7, .ref n8, .ref n9, .ref n10]))]) rfl dX7_image_29 (fun H locs V => ?_)
      refine lv_iconst (v := (nI 0)) hx hb dX7_image_30 (by decide +kernel) ?_
      have V := V.sub (ws' := []) [] rfl rfl
      exact g_iret (Qr := (q_X7_image T o i n0 s0 im iz rw t0 u0 h0 y0 i0 j0 n1 n2 n3 n4 n5 n6 n7 n8 n9 n10 i1 i2 i3 i4 i5 i6 i7 i8 i9 i10 j1 j2 j3 j4 j5 j6 j7 j8 j9 j10)) hC V ⟨(Nat.le_of_ble_eq_true rfl), (Nat.le_of_ble_eq_true rfl)⟩ ⟨(nI 0), rfl, rfl, (by first | exact pf_image_1 ‹_› | exact pf_image_2 ‹_› ‹_›)⟩ dX7_image_31
    · skip
      refine lv_if_ne (tgt := 10) hx hb dX7_image_4 (by decide) (fun _ => ?_) (fun c => absurd (show (nI 1) = 0 from c) (by decide +kernel))
      refine lv_aload_n hx hb dX7_image_10 rfl (lv_at hl 0 rfl) ?_
      refine g_get hC V (ci := 7) uwX7 0 rfl rfl 2 (by decide) w_251 rfl rfl dX7_image_11 ?_
      refine lv_iload_n hx hb dX7_image_14 rfl (lv_at hl 1 rfl) ?_
      refine g_aald hC V 1 4 rfl rfl (vp_in_nI (by decide) (by decide)) (v := .ref j0) (by rw [nI_clamp (by decide)]; rfl) dX7_image_15 ?_
      refine lv_aload_n hx hb dX7_image_16 rfl (lv_at hl 0 rfl) ?_
      refine g_get hC V (ci := 7) uwX7 0 rfl rfl 0 (by decide) w_249 rfl rfl dX7_image_17 ?_
      refine g_callV (wr := [(o, .inr (7, [.ref n0, .ref s0, .ref im, .ref iz, .ref rw, .ref t0, .ref u0, .ref h0, .ref y0, .null])), (im, .inl (T 4, 2, .inr (.inr (.inr (.inr (va_up (va_up (fun _ => none) 0 (some i0)) 1 (some j0))))))), (iz, .inl (T 2, 2, .inl (fun _ => nI 0))), (i0, .inr (5, [.int (nI 0), .int (nI 0), .int (nI 0), .int (nI 20), .int (nI 0), .ref i1, .ref i2, .ref i3, .ref i4, .ref i5, .ref i6, .ref i7, .ref i8, .ref i9, .ref i10]))]) (nA := 1) hC V hl.1 (c_takeFrom l D T j0 n0 (nI 0) (nI 0) (nI 0) (nI 20) (nI 0) j1 j2 j3 j4 j5 j6 j7 j8 j9 j10 0 n1 n2 n3 n4 n5 n6 n7 n8 n9 n10) w_413 w_414 w_415 w_3 w_416 (by decide +kernel) rfl ⟨(Nat.le_of_ble_eq_true rfl), (Nat.le_of_ble_eq_true rfl)⟩ 5 (ci := 5) rfl rfl [5, 3] [0, 1, 2, 4] rfl rfl rfl rfl (by decide) (Nat.le_of_ble_eq_true rfl) dX7_image_20 ⟨(Nat.le_of_ble_eq_true rfl), (Nat.le_of_ble_eq_true rfl)⟩ rfl (fun r w1 H locs hQ V => ?_)
      obtain ⟨rfl, rfl⟩ := hQ
      have V : gW D T A s [(o, .inr (7, [.ref n0, .ref s0, .ref im, .ref iz, .ref rw, .ref t0, .ref u0, .ref h0, .ref y0, .null])), (im, .inl (T 4, 2, .inr (.inr (.inr (.inr (va_up (va_up (fun _ => none) 0 (some i0)) 1 (some j0))))))), (iz, .inl (T 2, 2, .inl (fun _ => nI 0))), (i0, .inr (5, [.int (nI 0), .int (nI 0), .int (nI 0), .int (nI 20), .int (nI 0), .ref i1, .ref i2, .ref i3, .ref i4, .ref i5, .ref i6, .ref i7, .ref i8, .ref i9, .ref i10])), (j0, .inr (5, [.int (nI 0), .int (nI 0), .int (nI 0), .int (nI 20), .int (nI 0), .ref j1, .ref j2, .ref j3, .ref j4, .ref j5, .ref j6, .ref j7, .ref j8, .ref j9, .ref j10])), (n0, .inr (5, [.int (nI 0), .int (nI 0), .int (nI 0), .int (nI 20), .int (nI 0), .ref n1, .ref n2, .ref n3, .ref n4, .ref n5, .ref n6, .ref n7, .ref n8, .ref n9, .ref n10]))] H locs := V
      show W p l e _ s m args below meth c H locs _ _ _ (F0 m 23 ls [])
      refine lv_aload_n hx hb dX7_image_23 rfl (lv_at hl 0 rfl) ?_
      refine g_get hC V (ci := 7) uwX7 0 rfl rfl 3 (by decide) w_252 rfl rfl dX7_image_24 ?_
      refine lv_iload_n hx hb dX7_image_27 rfl (lv_at hl 1 rfl) ?_
      refine lv_iconst (v := (nI 1)) hx hb dX7_image_28 (by decide +kernel) ?_
      refine g_zast hC V 2 rfl (vp_in_nI (by decide) (by decide)) (f' := (upd (fun _ => nI 0) 1 (vp_nar .boolean (nI 1)))) (by rw [nI_clamp (by decide)]) (ws' := [(o, .inr (7, [.ref n0, .ref s0, .ref im, .ref iz, .ref rw, .ref t0, .ref u0, .ref h0, .ref y0, .null])), (im, .inl (T 4, 2, .inr (.inr (.inr (.inr (va_up (va_up (fun _ => none) 0 (some i0)) 1 (some j0))))))), (iz, .inl (T 2, 2, .inl (upd (fun _ => nI 0) 1 (vp_nar .boolean (nI 1))))), (i0, .inr (5, [.int (nI 0), .int (nI 0), .int (nI 0), .int (nI 20), .int (nI 0), .ref i1, .ref i2, .ref i3, .ref i4, .ref i5, .ref i6, .ref i7, .ref i8, .ref i9, .ref i10])), (j0, .inr (5, [.int (nI 0), .int (nI 0), .int (nI 0), .int (nI 20), .int (nI 0), .ref j1, .ref j2, .ref j3, .ref j4, .ref j5, .ref j6, .ref j7, .ref j8, .ref j9, .ref j10])), (n0, .inr (5, [.int (nI 0), .int (nI 0), .int (nI 0), .int (nI 20), .int (nI 0), .ref n1, .ref n2, .ref n3, .ref n4, .ref n5, .ref n6, .ref n7, .ref n8, .ref n9, .ref n10]))]) rfl dX7_image_29 (fun H locs V => ?_)
      refine lv_iconst (v := (nI 0)) hx hb dX7_image_30 (by decide +kernel) ?_
      have V := V.sub (ws' := []) [] rfl rfl
      exact g_iret (Qr := (q_X7_image T o i n0 s0 im iz rw t0 u0 h0 y0 i0 j0 n1 n2 n3 n4 n5 n6 n7 n8 n9 n10 i1 i2 i3 i4 i5 i6 i7 i8 i9 i10 j1 j2 j3 j4 j5 j6 j7 j8 j9 j10)) hC V ⟨(Nat.le_of_ble_eq_true rfl), (Nat.le_of_ble_eq_true rfl)⟩ ⟨(nI 0), rfl, rfl, (by first | exact pf_image_1 ‹_› | exact pf_image_2 ‹_› ‹_›)⟩ dX7_image_31
  · have V : gW D T A s [(o, .inr (7, [.ref n0, .ref s0, .ref im, .ref iz, .ref rw, .ref t0, .ref u0, .ref h0, .ref y0, .null])), (im, .inl (T 4, 2, .inr (.inr (.inr (.inr (va_up (va_up (fun _ => none) 0 (some i0)) 1 (some j0))))))), (iz, .inl (T 2, 2, .inl (fun _ => nI 0))), (n0, .inr (5, [.int (nI 0), .int (nI 0), .int (nI 0), .int (nI 20), .int (nI 0), .ref n1, .ref n2, .ref n3, .ref n4, .ref n5, .ref n6, .ref n7, .ref n8, .ref n9, .ref n10])), (i0, .inr (5, [.int (nI 0), .int (nI 0), .int (nI 0), .int (nI 20), .int (nI 0), .ref i1, .ref i2, .ref i3, .ref i4, .ref i5, .ref i6, .ref i7, .ref i8, .ref i9, .ref i10])), (j0, .inr (5, [.int (nI 0), .int (nI 0), .int (nI 0), .int (nI 20), .int (nI 0), .ref j1, .ref j2, .ref j3, .ref j4, .ref j5, .ref j6, .ref j7, .ref j8, .ref j9, .ref j10]))] H locs := V
    show W p l e _ s m args below meth c H locs _ _ _ (F0 m 4 ls [.int (nI 0)])
    refine lv_if_ne (tgt := 10) hx hb dX7_image_4 (by decide) (fun c => absurd (show (nI 0) = 0 by decide +kernel) c) (fun _ => ?_)
    refine lv_bipush (v := (-2)) hx hb dX7_image_7 (by decide +kernel) ?_
    have V := V.sub (ws' := []) [] rfl rfl
    exact g_iret (Qr := (q_X7_image T o i n0 s0 im iz rw t0 u0 h0 y0 i0 j0 n1 n2 n3 n4 n5 n6 n7 n8 n9 n10 i1 i2 i3 i4 i5 i6 i7 i8 i9 i10 j1 j2 j3 j4 j5 j6 j7 j8 j9 j10)) hC V ⟨(Nat.le_of_ble_eq_true rfl), (Nat.le_of_ble_eq_true rfl)⟩ ⟨(-2), rfl, rfl, (by first | exact pf_image_1 ‹_› | exact pf_image_2 ‹_› ‹_›)⟩ dX7_image_9

def q_X7_restore (T : Nat → ClassId) (o : Nat) (i : Int32) (n0 : Nat) (s0 : Nat) (im : Nat) (iz : Nat) (rw : Nat) (t0 : Nat) (u0 : Nat) (h0 : Nat) (y0 : Nat) (i0 : Nat) (j0 : Nat) : Option Value → va_W → Prop := fun rr ww => (∃ (z : Int32), rr = some (.int z) ∧ ww = [] ∧ z = pf_restore i)
set_option maxHeartbeats 4000000 in
set_option maxRecDepth 100000 in
theorem p_X7_restore (l : Launch) (D : va_G) (T : Nat → ClassId) (o : Nat) (i : Int32) (n0 : Nat) (s0 : Nat) (im : Nat) (iz : Nat) (rw : Nat) (t0 : Nat) (u0 : Nat) (h0 : Nat) (y0 : Nat) (i0 : Nat) (j0 : Nat) : Ct l yX7_restore cX7_restore 2 (some .int) 1 0 0 D T [.ref o, .int i] [(o, .inr (7, [.ref n0, .ref s0, .ref im, .ref iz, .ref rw, .ref t0, .ref u0, .ref h0, .ref y0, .null])), (im, .inl (T 4, 2, .inr (.inr (.inr (.inr (va_up (va_up (fun _ => none) 0 (some i0)) 1 (some j0))))))), (iz, .inl (T 2, 2, .inl (fun _ => nI 0)))] (q_X7_restore T o i n0 s0 im iz rw t0 u0 h0 y0 i0 j0) := by
  refine Ct.of (cc := cX7_restore) (maxL := 2) (ret := (some .int)) (by decide) (Nat.le_of_ble_eq_true rfl) ?_
  intro p e s m args below meth c A ls hC hnm V hl
  obtain ⟨hx, hb, hr, hml, hown, hts, hlocks⟩ := id hC
  generalize hH : s.heap = H at V ⊢
  clear hH
  have hl : lv_has ls 2 [(0, .ref o), (1, .int i)] := hl
  generalize hlo : ([] : List Loc) = locs at V ⊢
  clear hlo
  refine lv_iload_n hx hb dX7_restore_0 rfl (lv_at hl 1 rfl) ?_
  refine g_callS (wr := [(o, .inr (7, [.ref n0, .ref s0, .ref im, .ref iz, .ref rw, .ref t0, .ref u0, .ref h0, .ref y0, .null])), (im, .inl (T 4, 2, .inr (.inr (.inr (.inr (va_up (va_up (fun _ => none) 0 (some i0)) 1 (some j0))))))), (iz, .inl (T 2, 2, .inl (fun _ => nI 0)))]) (nA := 1) hC V hl.1 (c_isImage l D T i) w_887 w_888 w_2 w_889 (by decide +kernel) rfl ⟨(Nat.le_of_ble_eq_true rfl), (Nat.le_of_ble_eq_true rfl)⟩ [] [0, 1, 2] rfl rfl rfl rfl (by decide) (Nat.le_of_ble_eq_true rfl) dX7_restore_1 ⟨(Nat.le_of_ble_eq_true rfl), (Nat.le_of_ble_eq_true rfl)⟩ rfl (fun r w1 H locs hQ V => ?_)
  rcases hQ with ⟨rfl, rfl, f_1, f_2⟩ | ⟨rfl, rfl, f_3⟩
  · have V : gW D T A s [(o, .inr (7, [.ref n0, .ref s0, .ref im, .ref iz, .ref rw, .ref t0, .ref u0, .ref h0, .ref y0, .null])), (im, .inl (T 4, 2, .inr (.inr (.inr (.inr (va_up (va_up (fun _ => none) 0 (some i0)) 1 (some j0))))))), (iz, .inl (T 2, 2, .inl (fun _ => nI 0)))] H locs := V
    show W p l e _ s m args below meth c H locs _ _ _ (F0 m 4 ls [.int (nI 1)])
    obtain ⟨j_4, hj_4, ej_4⟩ := g_idx (n := 2) (by decide) f_1 f_2
    rw [ej_4] at hl
    have hj_4 : j_4 = 0 ∨ j_4 = 1 := by omega
    rcases hj_4 with rfl | rfl
    · skip
      refine lv_if_ne (tgt := 10) hx hb dX7_restore_4 (by decide) (fun _ => ?_) (fun c => absurd (show (nI 1) = 0 from c) (by decide +kernel))
      refine lv_aload_n hx hb dX7_restore_10 rfl (lv_at hl 0 rfl) ?_
      refine g_get hC V (ci := 7) uwX7 0 rfl rfl 3 (by decide) w_252 rfl rfl dX7_restore_11 ?_
      refine lv_iload_n hx hb dX7_restore_14 rfl (lv_at hl 1 rfl) ?_
      refine g_zald hC V 2 rfl (vp_in_nI (by decide) (by decide)) (v := (nI 0)) rfl dX7_restore_15 ?_
      refine lv_if_ne (tgt := 22) hx hb dX7_restore_16 (by decide) (fun c => absurd (show (nI 0) = 0 by decide +kernel) c) (fun _ => ?_)
      refine lv_bipush (v := (-5)) hx hb dX7_restore_19 (by decide +kernel) ?_
      have V := V.sub (ws' := []) [] rfl rfl
      exact g_iret (Qr := (q_X7_restore T o i n0 s0 im iz rw t0 u0 h0 y0 i0 j0)) hC V ⟨(Nat.le_of_ble_eq_true rfl), (Nat.le_of_ble_eq_true rfl)⟩ ⟨(-5), rfl, rfl, (by first | exact pf_restore_1 ‹_› | exact pf_restore_2 ‹_› ‹_›)⟩ dX7_restore_21
    · skip
      refine lv_if_ne (tgt := 10) hx hb dX7_restore_4 (by decide) (fun _ => ?_) (fun c => absurd (show (nI 1) = 0 from c) (by decide +kernel))
      refine lv_aload_n hx hb dX7_restore_10 rfl (lv_at hl 0 rfl) ?_
      refine g_get hC V (ci := 7) uwX7 0 rfl rfl 3 (by decide) w_252 rfl rfl dX7_restore_11 ?_
      refine lv_iload_n hx hb dX7_restore_14 rfl (lv_at hl 1 rfl) ?_
      refine g_zald hC V 2 rfl (vp_in_nI (by decide) (by decide)) (v := (nI 0)) rfl dX7_restore_15 ?_
      refine lv_if_ne (tgt := 22) hx hb dX7_restore_16 (by decide) (fun c => absurd (show (nI 0) = 0 by decide +kernel) c) (fun _ => ?_)
      refine lv_bipush (v := (-5)) hx hb dX7_restore_19 (by decide +kernel) ?_
      have V := V.sub (ws' := []) [] rfl rfl
      exact g_iret (Qr := (q_X7_restore T o i n0 s0 im iz rw t0 u0 h0 y0 i0 j0)) hC V ⟨(Nat.le_of_ble_eq_true rfl), (Nat.le_of_ble_eq_true rfl)⟩ ⟨(-5), rfl, rfl, (by first | exact pf_restore_1 ‹_› | exact pf_restore_2 ‹_› ‹_›)⟩ dX7_restore_21
  · have V : gW D T A s [(o, .inr (7, [.ref n0, .ref s0, .ref im, .ref iz, .ref rw, .ref t0, .ref u0, .ref h0, .ref y0, .null])), (im, .inl (T 4, 2, .inr (.inr (.inr (.inr (va_up (va_up (fun _ => none) 0 (some i0)) 1 (some j0))))))), (iz, .inl (T 2, 2, .inl (fun _ => nI 0)))] H locs := V
    show W p l e _ s m args below meth c H locs _ _ _ (F0 m 4 ls [.int (nI 0)])
    refine lv_if_ne (tgt := 10) hx hb dX7_restore_4 (by decide) (fun c => absurd (show (nI 0) = 0 by decide +kernel) c) (fun _ => ?_)
    refine lv_bipush (v := (-2)) hx hb dX7_restore_7 (by decide +kernel) ?_
    have V := V.sub (ws' := []) [] rfl rfl
    exact g_iret (Qr := (q_X7_restore T o i n0 s0 im iz rw t0 u0 h0 y0 i0 j0)) hC V ⟨(Nat.le_of_ble_eq_true rfl), (Nat.le_of_ble_eq_true rfl)⟩ ⟨(-2), rfl, rfl, (by first | exact pf_restore_1 ‹_› | exact pf_restore_2 ‹_› ‹_›)⟩ dX7_restore_9

def q_X7_count (T : Nat → ClassId) (o : Nat) (wh : Int32) (n0 : Nat) (s0 : Nat) (im : Nat) (iz : Nat) (rw : Nat) (t0 : Nat) (u0 : Nat) (h0 : Nat) (y0 : Nat) (n1 : Nat) (n2 : Nat) (n3 : Nat) (n4 : Nat) (n5 : Nat) (n6 : Nat) (n7 : Nat) (n8 : Nat) (n9 : Nat) (n10 : Nat) (t1 : Nat) : Option Value → va_W → Prop := fun rr ww => (∃ (z : Int32), rr = some (.int z) ∧ ww = [] ∧ z = pf_count wh)
set_option maxHeartbeats 4000000 in
set_option maxRecDepth 100000 in
theorem p_X7_count (l : Launch) (D : va_G) (T : Nat → ClassId) (o : Nat) (wh : Int32) (n0 : Nat) (s0 : Nat) (im : Nat) (iz : Nat) (rw : Nat) (t0 : Nat) (u0 : Nat) (h0 : Nat) (y0 : Nat) (n1 : Nat) (n2 : Nat) (n3 : Nat) (n4 : Nat) (n5 : Nat) (n6 : Nat) (n7 : Nat) (n8 : Nat) (n9 : Nat) (n10 : Nat) (t1 : Nat) : Ct l yX7_count cX7_count 2 (some .int) 1 0 0 D T [.ref o, .int wh] [(o, .inr (7, [.ref n0, .ref s0, .ref im, .ref iz, .ref rw, .ref t0, .ref u0, .ref h0, .ref y0, .null])), (n0, .inr (5, [.int (nI 0), .int (nI 0), .int (nI 0), .int (nI 20), .int (nI 0), .ref n1, .ref n2, .ref n3, .ref n4, .ref n5, .ref n6, .ref n7, .ref n8, .ref n9, .ref n10])), (t0, .inr (2, [.int (nI 0), .int (nI 0), .int (-1), .ref t1, .int (nI 0), .int (nI 0), .int (nI 0), .int (nI 0)]))] (q_X7_count T o wh n0 s0 im iz rw t0 u0 h0 y0 n1 n2 n3 n4 n5 n6 n7 n8 n9 n10 t1) := by
  refine Ct.of (cc := cX7_count) (maxL := 2) (ret := (some .int)) (by decide) (Nat.le_of_ble_eq_true rfl) ?_
  intro p e s m args below meth c A ls hC hnm V hl
  obtain ⟨hx, hb, hr, hml, hown, hts, hlocks⟩ := id hC
  generalize hH : s.heap = H at V ⊢
  clear hH
  have hl : lv_has ls 2 [(0, .ref o), (1, .int wh)] := hl
  generalize hlo : ([] : List Loc) = locs at V ⊢
  clear hlo
  refine lv_iload_n hx hb dX7_count_0 rfl (lv_at hl 1 rfl) ?_
  by_cases c_10 : wh = (nI 0)
  · skip
    refine lv_tableIn (tgt := 52) (off := 51) hx hb dX7_count_1 (by first | decide +kernel | (rw [c_10]; decide +kernel)) (by first | decide +kernel | (rw [c_10]; decide +kernel)) (by first | decide +kernel | (rw [c_10]; decide +kernel)) (by decide) ?_
    refine lv_aload_n hx hb dX7_count_52 rfl (lv_at hl 0 rfl) ?_
    refine g_get hC V (ci := 7) uwX7 0 rfl rfl 0 (by decide) w_249 rfl rfl dX7_count_53 ?_
    refine g_get hC V (ci := 5) uwX5 1 rfl rfl 0 (by decide) w_38 rfl rfl dX7_count_56 ?_
    have V := V.sub (ws' := []) [] rfl rfl
    exact g_iret (Qr := (q_X7_count T o wh n0 s0 im iz rw t0 u0 h0 y0 n1 n2 n3 n4 n5 n6 n7 n8 n9 n10 t1)) hC V ⟨(Nat.le_of_ble_eq_true rfl), (Nat.le_of_ble_eq_true rfl)⟩ ⟨(nI 0), rfl, rfl, (by first | exact pf_count_1 ‹_› | exact pf_count_2 ‹_› | exact pf_count_3 ‹_› | exact pf_count_4 ‹_› | exact pf_count_5 ‹_› | exact pf_count_6 ‹_› | exact pf_count_7 ‹_› | exact pf_count_8 ‹_› | exact pf_count_9 ‹_› | exact pf_count_10 ‹_› ‹_› ‹_› ‹_› ‹_› ‹_› ‹_› ‹_› ‹_›)⟩ dX7_count_59
  by_cases c_11 : wh = (nI 1)
  · skip
    refine lv_tableIn (tgt := 60) (off := 59) hx hb dX7_count_1 (by first | decide +kernel | (rw [c_11]; decide +kernel)) (by first | decide +kernel | (rw [c_11]; decide +kernel)) (by first | decide +kernel | (rw [c_11]; decide +kernel)) (by decide) ?_
    refine lv_aload_n hx hb dX7_count_60 rfl (lv_at hl 0 rfl) ?_
    refine g_get hC V (ci := 7) uwX7 0 rfl rfl 0 (by decide) w_249 rfl rfl dX7_count_61 ?_
    refine g_get hC V (ci := 5) uwX5 1 rfl rfl 1 (by decide) w_41 rfl rfl dX7_count_64 ?_
    have V := V.sub (ws' := []) [] rfl rfl
    exact g_iret (Qr := (q_X7_count T o wh n0 s0 im iz rw t0 u0 h0 y0 n1 n2 n3 n4 n5 n6 n7 n8 n9 n10 t1)) hC V ⟨(Nat.le_of_ble_eq_true rfl), (Nat.le_of_ble_eq_true rfl)⟩ ⟨(nI 0), rfl, rfl, (by first | exact pf_count_1 ‹_› | exact pf_count_2 ‹_› | exact pf_count_3 ‹_› | exact pf_count_4 ‹_› | exact pf_count_5 ‹_› | exact pf_count_6 ‹_› | exact pf_count_7 ‹_› | exact pf_count_8 ‹_› | exact pf_count_9 ‹_› | exact pf_count_10 ‹_› ‹_› ‹_› ‹_› ‹_› ‹_› ‹_› ‹_› ‹_›)⟩ dX7_count_67
  by_cases c_12 : wh = (nI 2)
  · skip
    refine lv_tableIn (tgt := 68) (off := 67) hx hb dX7_count_1 (by first | decide +kernel | (rw [c_12]; decide +kernel)) (by first | decide +kernel | (rw [c_12]; decide +kernel)) (by first | decide +kernel | (rw [c_12]; decide +kernel)) (by decide) ?_
    refine lv_aload_n hx hb dX7_count_68 rfl (lv_at hl 0 rfl) ?_
    refine g_get hC V (ci := 7) uwX7 0 rfl rfl 0 (by decide) w_249 rfl rfl dX7_count_69 ?_
    refine g_callV (wr := [(o, .inr (7, [.ref n0, .ref s0, .ref im, .ref iz, .ref rw, .ref t0, .ref u0, .ref h0, .ref y0, .null])), (t0, .inr (2, [.int (nI 0), .int (nI 0), .int (-1), .ref t1, .int (nI 0), .int (nI 0), .int (nI 0), .int (nI 0)]))]) (nA := 0) hC V hl.1 (c_piecesDone l D T n0 0 n1 n2 n3 n4 n5 n6 n7 n8 n9 n10) w_516 w_517 w_518 w_3 w_519 (by decide +kernel) rfl ⟨(Nat.le_of_ble_eq_true rfl), (Nat.le_of_ble_eq_true rfl)⟩ 1 (ci := 5) rfl rfl [1] [0, 2] rfl rfl rfl rfl (by decide) (Nat.le_of_ble_eq_true rfl) dX7_count_72 ⟨(Nat.le_of_ble_eq_true rfl), (Nat.le_of_ble_eq_true rfl)⟩ rfl (fun r w1 H locs hQ V => ?_)
    obtain ⟨rfl, rfl⟩ := hQ
    have V : gW D T A s [(o, .inr (7, [.ref n0, .ref s0, .ref im, .ref iz, .ref rw, .ref t0, .ref u0, .ref h0, .ref y0, .null])), (t0, .inr (2, [.int (nI 0), .int (nI 0), .int (-1), .ref t1, .int (nI 0), .int (nI 0), .int (nI 0), .int (nI 0)])), (n0, .inr (5, [.int (nI 0), .int (nI 0), .int (nI 0), .int (nI 20), .int (nI 0), .ref n1, .ref n2, .ref n3, .ref n4, .ref n5, .ref n6, .ref n7, .ref n8, .ref n9, .ref n10]))] H locs := V
    show W p l e _ s m args below meth c H locs _ _ _ (F0 m 75 ls [.int (nI 0)])
    have V := V.sub (ws' := []) [] rfl rfl
    exact g_iret (Qr := (q_X7_count T o wh n0 s0 im iz rw t0 u0 h0 y0 n1 n2 n3 n4 n5 n6 n7 n8 n9 n10 t1)) hC V ⟨(Nat.le_of_ble_eq_true rfl), (Nat.le_of_ble_eq_true rfl)⟩ ⟨(nI 0), rfl, rfl, (by first | exact pf_count_1 ‹_› | exact pf_count_2 ‹_› | exact pf_count_3 ‹_› | exact pf_count_4 ‹_› | exact pf_count_5 ‹_› | exact pf_count_6 ‹_› | exact pf_count_7 ‹_› | exact pf_count_8 ‹_› | exact pf_count_9 ‹_› | exact pf_count_10 ‹_› ‹_› ‹_› ‹_› ‹_› ‹_› ‹_› ‹_› ‹_›)⟩ dX7_count_75
  by_cases c_13 : wh = (nI 3)
  · skip
    refine lv_tableIn (tgt := 76) (off := 75) hx hb dX7_count_1 (by first | decide +kernel | (rw [c_13]; decide +kernel)) (by first | decide +kernel | (rw [c_13]; decide +kernel)) (by first | decide +kernel | (rw [c_13]; decide +kernel)) (by decide) ?_
    refine lv_aload_n hx hb dX7_count_76 rfl (lv_at hl 0 rfl) ?_
    refine g_get hC V (ci := 7) uwX7 0 rfl rfl 0 (by decide) w_249 rfl rfl dX7_count_77 ?_
    refine g_get hC V (ci := 5) uwX5 1 rfl rfl 4 (by decide) w_50 rfl rfl dX7_count_80 ?_
    have V := V.sub (ws' := []) [] rfl rfl
    exact g_iret (Qr := (q_X7_count T o wh n0 s0 im iz rw t0 u0 h0 y0 n1 n2 n3 n4 n5 n6 n7 n8 n9 n10 t1)) hC V ⟨(Nat.le_of_ble_eq_true rfl), (Nat.le_of_ble_eq_true rfl)⟩ ⟨(nI 0), rfl, rfl, (by first | exact pf_count_1 ‹_› | exact pf_count_2 ‹_› | exact pf_count_3 ‹_› | exact pf_count_4 ‹_› | exact pf_count_5 ‹_› | exact pf_count_6 ‹_› | exact pf_count_7 ‹_› | exact pf_count_8 ‹_› | exact pf_count_9 ‹_› | exact pf_count_10 ‹_› ‹_› ‹_› ‹_› ‹_› ‹_› ‹_› ‹_› ‹_›)⟩ dX7_count_83
  by_cases c_14 : wh = (nI 4)
  · skip
    refine lv_tableIn (tgt := 84) (off := 83) hx hb dX7_count_1 (by first | decide +kernel | (rw [c_14]; decide +kernel)) (by first | decide +kernel | (rw [c_14]; decide +kernel)) (by first | decide +kernel | (rw [c_14]; decide +kernel)) (by decide) ?_
    refine lv_aload_n hx hb dX7_count_84 rfl (lv_at hl 0 rfl) ?_
    refine g_get hC V (ci := 7) uwX7 0 rfl rfl 0 (by decide) w_249 rfl rfl dX7_count_85 ?_
    refine g_callV (wr := [(o, .inr (7, [.ref n0, .ref s0, .ref im, .ref iz, .ref rw, .ref t0, .ref u0, .ref h0, .ref y0, .null])), (t0, .inr (2, [.int (nI 0), .int (nI 0), .int (-1), .ref t1, .int (nI 0), .int (nI 0), .int (nI 0), .int (nI 0)]))]) (nA := 0) hC V hl.1 (c_workable l D T n0 0 n1 n2 n3 n4 n5 n6 n7 n8 n9 n10) w_898 w_899 w_900 w_3 w_901 (by decide +kernel) rfl ⟨(Nat.le_of_ble_eq_true rfl), (Nat.le_of_ble_eq_true rfl)⟩ 1 (ci := 5) rfl rfl [1] [0, 2] rfl rfl rfl rfl (by decide) (Nat.le_of_ble_eq_true rfl) dX7_count_88 ⟨(Nat.le_of_ble_eq_true rfl), (Nat.le_of_ble_eq_true rfl)⟩ rfl (fun r w1 H locs hQ V => ?_)
    obtain ⟨rfl, rfl⟩ := hQ
    have V : gW D T A s [(o, .inr (7, [.ref n0, .ref s0, .ref im, .ref iz, .ref rw, .ref t0, .ref u0, .ref h0, .ref y0, .null])), (t0, .inr (2, [.int (nI 0), .int (nI 0), .int (-1), .ref t1, .int (nI 0), .int (nI 0), .int (nI 0), .int (nI 0)])), (n0, .inr (5, [.int (nI 0), .int (nI 0), .int (nI 0), .int (nI 20), .int (nI 0), .ref n1, .ref n2, .ref n3, .ref n4, .ref n5, .ref n6, .ref n7, .ref n8, .ref n9, .ref n10]))] H locs := V
    show W p l e _ s m args below meth c H locs _ _ _ (F0 m 91 ls [.int (nI 0)])
    have V := V.sub (ws' := []) [] rfl rfl
    exact g_iret (Qr := (q_X7_count T o wh n0 s0 im iz rw t0 u0 h0 y0 n1 n2 n3 n4 n5 n6 n7 n8 n9 n10 t1)) hC V ⟨(Nat.le_of_ble_eq_true rfl), (Nat.le_of_ble_eq_true rfl)⟩ ⟨(nI 0), rfl, rfl, (by first | exact pf_count_1 ‹_› | exact pf_count_2 ‹_› | exact pf_count_3 ‹_› | exact pf_count_4 ‹_› | exact pf_count_5 ‹_› | exact pf_count_6 ‹_› | exact pf_count_7 ‹_› | exact pf_count_8 ‹_› | exact pf_count_9 ‹_› | exact pf_count_10 ‹_› ‹_› ‹_› ‹_› ‹_› ‹_› ‹_› ‹_› ‹_›)⟩ dX7_count_91
  by_cases c_15 : wh = (nI 5)
  · skip
    refine lv_tableIn (tgt := 92) (off := 91) hx hb dX7_count_1 (by first | decide +kernel | (rw [c_15]; decide +kernel)) (by first | decide +kernel | (rw [c_15]; decide +kernel)) (by first | decide +kernel | (rw [c_15]; decide +kernel)) (by decide) ?_
    refine lv_aload_n hx hb dX7_count_92 rfl (lv_at hl 0 rfl) ?_
    refine g_get hC V (ci := 7) uwX7 0 rfl rfl 0 (by decide) w_249 rfl rfl dX7_count_93 ?_
    refine g_callV (wr := [(o, .inr (7, [.ref n0, .ref s0, .ref im, .ref iz, .ref rw, .ref t0, .ref u0, .ref h0, .ref y0, .null])), (t0, .inr (2, [.int (nI 0), .int (nI 0), .int (-1), .ref t1, .int (nI 0), .int (nI 0), .int (nI 0), .int (nI 0)]))]) (nA := 0) hC V hl.1 (c_heatTogether l D T n0 0 n1 n2 n3 n4 n5 n6 n7 n8 n9 n10) w_902 w_903 w_904 w_3 w_905 (by decide +kernel) rfl ⟨(Nat.le_of_ble_eq_true rfl), (Nat.le_of_ble_eq_true rfl)⟩ 1 (ci := 5) rfl rfl [1] [0, 2] rfl rfl rfl rfl (by decide) (Nat.le_of_ble_eq_true rfl) dX7_count_96 ⟨(Nat.le_of_ble_eq_true rfl), (Nat.le_of_ble_eq_true rfl)⟩ rfl (fun r w1 H locs hQ V => ?_)
    obtain ⟨rfl, rfl⟩ := hQ
    have V : gW D T A s [(o, .inr (7, [.ref n0, .ref s0, .ref im, .ref iz, .ref rw, .ref t0, .ref u0, .ref h0, .ref y0, .null])), (t0, .inr (2, [.int (nI 0), .int (nI 0), .int (-1), .ref t1, .int (nI 0), .int (nI 0), .int (nI 0), .int (nI 0)])), (n0, .inr (5, [.int (nI 0), .int (nI 0), .int (nI 0), .int (nI 20), .int (nI 0), .ref n1, .ref n2, .ref n3, .ref n4, .ref n5, .ref n6, .ref n7, .ref n8, .ref n9, .ref n10]))] H locs := V
    show W p l e _ s m args below meth c H locs _ _ _ (F0 m 99 ls [.int (nI 0)])
    have V := V.sub (ws' := []) [] rfl rfl
    exact g_iret (Qr := (q_X7_count T o wh n0 s0 im iz rw t0 u0 h0 y0 n1 n2 n3 n4 n5 n6 n7 n8 n9 n10 t1)) hC V ⟨(Nat.le_of_ble_eq_true rfl), (Nat.le_of_ble_eq_true rfl)⟩ ⟨(nI 0), rfl, rfl, (by first | exact pf_count_1 ‹_› | exact pf_count_2 ‹_› | exact pf_count_3 ‹_› | exact pf_count_4 ‹_› | exact pf_count_5 ‹_› | exact pf_count_6 ‹_› | exact pf_count_7 ‹_› | exact pf_count_8 ‹_› | exact pf_count_9 ‹_› | exact pf_count_10 ‹_› ‹_› ‹_› ‹_› ‹_› ‹_› ‹_› ‹_› ‹_›)⟩ dX7_count_99
  by_cases c_16 : wh = (nI 6)
  · skip
    refine lv_tableIn (tgt := 100) (off := 99) hx hb dX7_count_1 (by first | decide +kernel | (rw [c_16]; decide +kernel)) (by first | decide +kernel | (rw [c_16]; decide +kernel)) (by first | decide +kernel | (rw [c_16]; decide +kernel)) (by decide) ?_
    refine lv_aload_n hx hb dX7_count_100 rfl (lv_at hl 0 rfl) ?_
    refine g_get hC V (ci := 7) uwX7 0 rfl rfl 5 (by decide) w_254 rfl rfl dX7_count_101 ?_
    refine g_get hC V (ci := 2) uwX2 2 rfl rfl 0 (by decide) w_128 rfl rfl dX7_count_104 ?_
    have V := V.sub (ws' := []) [] rfl rfl
    exact g_iret (Qr := (q_X7_count T o wh n0 s0 im iz rw t0 u0 h0 y0 n1 n2 n3 n4 n5 n6 n7 n8 n9 n10 t1)) hC V ⟨(Nat.le_of_ble_eq_true rfl), (Nat.le_of_ble_eq_true rfl)⟩ ⟨(nI 0), rfl, rfl, (by first | exact pf_count_1 ‹_› | exact pf_count_2 ‹_› | exact pf_count_3 ‹_› | exact pf_count_4 ‹_› | exact pf_count_5 ‹_› | exact pf_count_6 ‹_› | exact pf_count_7 ‹_› | exact pf_count_8 ‹_› | exact pf_count_9 ‹_› | exact pf_count_10 ‹_› ‹_› ‹_› ‹_› ‹_› ‹_› ‹_› ‹_› ‹_›)⟩ dX7_count_107
  by_cases c_17 : wh = (nI 7)
  · skip
    refine lv_tableIn (tgt := 108) (off := 107) hx hb dX7_count_1 (by first | decide +kernel | (rw [c_17]; decide +kernel)) (by first | decide +kernel | (rw [c_17]; decide +kernel)) (by first | decide +kernel | (rw [c_17]; decide +kernel)) (by decide) ?_
    refine lv_aload_n hx hb dX7_count_108 rfl (lv_at hl 0 rfl) ?_
    refine g_get hC V (ci := 7) uwX7 0 rfl rfl 0 (by decide) w_249 rfl rfl dX7_count_109 ?_
    refine g_get hC V (ci := 5) uwX5 1 rfl rfl 2 (by decide) w_43 rfl rfl dX7_count_112 ?_
    have V := V.sub (ws' := []) [] rfl rfl
    exact g_iret (Qr := (q_X7_count T o wh n0 s0 im iz rw t0 u0 h0 y0 n1 n2 n3 n4 n5 n6 n7 n8 n9 n10 t1)) hC V ⟨(Nat.le_of_ble_eq_true rfl), (Nat.le_of_ble_eq_true rfl)⟩ ⟨(nI 0), rfl, rfl, (by first | exact pf_count_1 ‹_› | exact pf_count_2 ‹_› | exact pf_count_3 ‹_› | exact pf_count_4 ‹_› | exact pf_count_5 ‹_› | exact pf_count_6 ‹_› | exact pf_count_7 ‹_› | exact pf_count_8 ‹_› | exact pf_count_9 ‹_› | exact pf_count_10 ‹_› ‹_› ‹_› ‹_› ‹_› ‹_› ‹_› ‹_› ‹_›)⟩ dX7_count_115
  by_cases c_18 : wh = (nI 8)
  · skip
    refine lv_tableIn (tgt := 116) (off := 115) hx hb dX7_count_1 (by first | decide +kernel | (rw [c_18]; decide +kernel)) (by first | decide +kernel | (rw [c_18]; decide +kernel)) (by first | decide +kernel | (rw [c_18]; decide +kernel)) (by decide) ?_
    refine lv_aload_n hx hb dX7_count_116 rfl (lv_at hl 0 rfl) ?_
    refine g_get hC V (ci := 7) uwX7 0 rfl rfl 0 (by decide) w_249 rfl rfl dX7_count_117 ?_
    refine g_get hC V (ci := 5) uwX5 1 rfl rfl 3 (by decide) w_48 rfl rfl dX7_count_120 ?_
    have V := V.sub (ws' := []) [] rfl rfl
    exact g_iret (Qr := (q_X7_count T o wh n0 s0 im iz rw t0 u0 h0 y0 n1 n2 n3 n4 n5 n6 n7 n8 n9 n10 t1)) hC V ⟨(Nat.le_of_ble_eq_true rfl), (Nat.le_of_ble_eq_true rfl)⟩ ⟨(nI 20), rfl, rfl, (by first | exact pf_count_1 ‹_› | exact pf_count_2 ‹_› | exact pf_count_3 ‹_› | exact pf_count_4 ‹_› | exact pf_count_5 ‹_› | exact pf_count_6 ‹_› | exact pf_count_7 ‹_› | exact pf_count_8 ‹_› | exact pf_count_9 ‹_› | exact pf_count_10 ‹_› ‹_› ‹_› ‹_› ‹_› ‹_› ‹_› ‹_› ‹_›)⟩ dX7_count_123
  refine lv_tableOut (tgt := 124) hx hb dX7_count_1 (g_out 0 8 (fun k h1 h2 => ?_)) (by decide) ?_
  · intro h
    have h3 : k = 0 ∨ k = 1 ∨ k = 2 ∨ k = 3 ∨ k = 4 ∨ k = 5 ∨ k = 6 ∨ k = 7 ∨ k = 8 := by omega
    rcases h3 with rfl | rfl | rfl | rfl | rfl | rfl | rfl | rfl | rfl
    · exact c_10 (g_out2 h (by decide +kernel))
    · exact c_11 (g_out2 h (by decide +kernel))
    · exact c_12 (g_out2 h (by decide +kernel))
    · exact c_13 (g_out2 h (by decide +kernel))
    · exact c_14 (g_out2 h (by decide +kernel))
    · exact c_15 (g_out2 h (by decide +kernel))
    · exact c_16 (g_out2 h (by decide +kernel))
    · exact c_17 (g_out2 h (by decide +kernel))
    · exact c_18 (g_out2 h (by decide +kernel))
  refine lv_iconst (v := (-1)) hx hb dX7_count_124 (by decide +kernel) ?_
  have V := V.sub (ws' := []) [] rfl rfl
  exact g_iret (Qr := (q_X7_count T o wh n0 s0 im iz rw t0 u0 h0 y0 n1 n2 n3 n4 n5 n6 n7 n8 n9 n10 t1)) hC V ⟨(Nat.le_of_ble_eq_true rfl), (Nat.le_of_ble_eq_true rfl)⟩ ⟨(-1), rfl, rfl, (by first | exact pf_count_1 ‹_› | exact pf_count_2 ‹_› | exact pf_count_3 ‹_› | exact pf_count_4 ‹_› | exact pf_count_5 ‹_› | exact pf_count_6 ‹_› | exact pf_count_7 ‹_› | exact pf_count_8 ‹_› | exact pf_count_9 ‹_› | exact pf_count_10 ‹_› ‹_› ‹_› ‹_› ‹_› ‹_› ‹_› ‹_› ‹_›)⟩ dX7_count_125
