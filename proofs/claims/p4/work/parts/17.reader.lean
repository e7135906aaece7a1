def q_rd_putBytes (T : Nat → ClassId) (t0 : Nat) (four : Int32) (tf : Nat) (tu : Int32) (tl : Int32) (t1 : Nat) (te : Int32) (tk : Int32) (tr : Int32) (tb : Int32) (tx : Nat → Int32) : Option Value → va_W → Prop := fun rr ww => (∃ (f2 : Nat) (g : Nat → Int32), rr = none ∧ ww = [(t0, .inr (2, [.int (nI f2), .int tu, .int tl, .ref t1, .int te, .int tk, .int tr, .int tb])), (t1, .inl (T 3, 900, .inl g))] ∧ f2 = tf + 4)
set_option maxHeartbeats 4000000 in
set_option maxRecDepth 100000 in
theorem rd_putBytes (l : Launch) (D : va_G) (T : Nat → ClassId) (t0 : Nat) (four : Int32) (tf : Nat) (tu : Int32) (tl : Int32) (t1 : Nat) (te : Int32) (tk : Int32) (tr : Int32) (tb : Int32) (tx : Nat → Int32) (h_f : tf + 4 ≤ 900) : Ct l yX2_putBytes cX2_putBytes 3 none 0 0 0 D T [.ref t0, .int four] [(t0, .inr (2, [.int (nI tf), .int tu, .int tl, .ref t1, .int te, .int tk, .int tr, .int tb])), (t1, .inl (T 3, 900, .inl tx))] (q_rd_putBytes T t0 four tf tu tl t1 te tk tr tb tx) := by
  refine Ct.of (cc := cX2_putBytes) (maxL := 3) (ret := none) (by decide) (Nat.le_of_ble_eq_true rfl) ?_
  intro p e s m args below meth c A ls hC hnm V hl
  obtain ⟨hx, hb, hr, hml, hown, hts, hlocks⟩ := id hC
  generalize hH : s.heap = H at V ⊢
  clear hH
  have hl : lv_has ls 3 [(0, .ref t0), (1, .int four)] := hl
  generalize hlo : ([] : List Loc) = locs at V ⊢
  clear hlo
  refine lv_bipush (v := (nI 24)) hx hb dX2_putBytes_0 (by decide +kernel) ?_
  refine lv_istore_n (lv' := [(2, .int (nI 24)), (0, .ref t0), (1, .int four)]) hx hb dX2_putBytes_2 rfl hl (by decide) rfl (fun ls hl => ?_)
  refine lv_iload_n hx hb dX2_putBytes_3 rfl (lv_at hl 0 rfl) ?_
  refine lv_if_lt (tgt := 46) hx hb dX2_putBytes_4 (by decide) (fun c => absurd (show (nI 24) < 0 from c) (by decide +kernel)) (fun _ => ?_)
  refine lv_aload_n hx hb dX2_putBytes_7 rfl (lv_at hl 1 rfl) ?_
  refine g_get hC V (ci := 2) uwX2 0 rfl rfl 0 (by decide) w_129 rfl rfl dX2_putBytes_8 ?_
  refine lv_sipush (v := (nI 900)) hx hb dX2_putBytes_11 (by decide +kernel) ?_
  refine lv_icmp_ge (tgt := 46) hx hb dX2_putBytes_14 (by decide) (fun c_1 => ?_) (fun c_1 => ?_)
  · skip
    have c_1 := b_le (by omega) (by omega) c_1
    exact (by omega : False).elim
  · skip
    have c_1 := b_nle (by omega) (by omega) c_1
    refine lv_aload_n hx hb dX2_putBytes_17 rfl (lv_at hl 1 rfl) ?_
    refine g_get hC V (ci := 2) uwX2 0 rfl rfl 3 (by decide) w_134 rfl rfl dX2_putBytes_18 ?_
    refine lv_aload_n hx hb dX2_putBytes_21 rfl (lv_at hl 1 rfl) ?_
    refine g_get hC V (ci := 2) uwX2 0 rfl rfl 0 (by decide) w_129 rfl rfl dX2_putBytes_22 ?_
    refine lv_iload_n hx hb dX2_putBytes_25 rfl (lv_at hl 2 rfl) ?_
    refine lv_iload_n hx hb dX2_putBytes_26 rfl (lv_at hl 0 rfl) ?_
    refine lv_ishr hx hb dX2_putBytes_27 ?_
    refine lv_i2b hx hb dX2_putBytes_28 rfl ?_
    refine g_bast hC V 1 rfl (vp_in_nI (by omega) (by omega)) (f' := (upd tx tf (vp_nar .byte (((four >>> ((nI 24) &&& 31))).toInt8.toInt32)))) (by rw [nI_clamp (by omega)]) (ws' := [(t0, .inr (2, [.int (nI tf), .int tu, .int tl, .ref t1, .int te, .int tk, .int tr, .int tb])), (t1, .inl (T 3, 900, .inl (upd tx tf (vp_nar .byte (((four >>> ((nI 24) &&& 31))).toInt8.toInt32)))))]) rfl dX2_putBytes_29 (fun H locs V => ?_)
    refine lv_aload_n hx hb dX2_putBytes_30 rfl (lv_at hl 1 rfl) ?_
    refine lv_dup hx hb dX2_putBytes_31 rfl ?_
    refine g_get hC V (ci := 2) uwX2 0 rfl rfl 0 (by decide) w_129 rfl rfl dX2_putBytes_32 ?_
    refine lv_iconst (v := (nI 1)) hx hb dX2_putBytes_35 (by decide +kernel) ?_
    refine lv_iadd hx hb dX2_putBytes_36 ?_
    refine g_vi (y := (nI (tf + 1))) (nI_add _ _) ?_
    refine g_put hC V (ci := 2) uwX2 tyX2 tyX2_ok nmX2 0 rfl rfl 0 (by decide) w_129 rfl rfl rfl rfl (Nat.le_of_ble_eq_true rfl) (ws' := [(t0, .inr (2, [.int (nI (tf + 1)), .int tu, .int tl, .ref t1, .int te, .int tk, .int tr, .int tb])), (t1, .inl (T 3, 900, .inl (upd tx tf (vp_nar .byte (((four >>> ((nI 24) &&& 31))).toInt8.toInt32)))))]) rfl dX2_putBytes_37 (fun H locs V => ?_)
    refine lv_iinc (v := (nI 16)) (lv' := [(2, .int (nI 16)), (0, .ref t0), (1, .int four)]) hx hb dX2_putBytes_40 hl (k := 0) rfl (by decide +kernel) (by decide) rfl (fun ls hl => ?_)
    refine lv_goto (tgt := 3) hx hb dX2_putBytes_43 (by decide) ?_
    refine lv_iload_n hx hb dX2_putBytes_3 rfl (lv_at hl 0 rfl) ?_
    refine lv_if_lt (tgt := 46) hx hb dX2_putBytes_4 (by decide) (fun c => absurd (show (nI 16) < 0 from c) (by decide +kernel)) (fun _ => ?_)
    refine lv_aload_n hx hb dX2_putBytes_7 rfl (lv_at hl 1 rfl) ?_
    refine g_get hC V (ci := 2) uwX2 0 rfl rfl 0 (by decide) w_129 rfl rfl dX2_putBytes_8 ?_
    refine lv_sipush (v := (nI 900)) hx hb dX2_putBytes_11 (by decide +kernel) ?_
    refine lv_icmp_ge (tgt := 46) hx hb dX2_putBytes_14 (by decide) (fun c_2 => ?_) (fun c_2 => ?_)
    · skip
      have c_2 := b_le (by omega) (by omega) c_2
      exact (by omega : False).elim
    · skip
      have c_2 := b_nle (by omega) (by omega) c_2
      refine lv_aload_n hx hb dX2_putBytes_17 rfl (lv_at hl 1 rfl) ?_
      refine g_get hC V (ci := 2) uwX2 0 rfl rfl 3 (by decide) w_134 rfl rfl dX2_putBytes_18 ?_
      refine lv_aload_n hx hb dX2_putBytes_21 rfl (lv_at hl 1 rfl) ?_
      refine g_get hC V (ci := 2) uwX2 0 rfl rfl 0 (by decide) w_129 rfl rfl dX2_putBytes_22 ?_
      refine lv_iload_n hx hb dX2_putBytes_25 rfl (lv_at hl 2 rfl) ?_
      refine lv_iload_n hx hb dX2_putBytes_26 rfl (lv_at hl 0 rfl) ?_
      refine lv_ishr hx hb dX2_putBytes_27 ?_
      refine lv_i2b hx hb dX2_putBytes_28 rfl ?_
      refine g_bast hC V 1 rfl (vp_in_nI (by omega) (by omega)) (f' := (upd (upd tx tf (vp_nar .byte (((four >>> ((nI 24) &&& 31))).toInt8.toInt32))) (tf + 1) (vp_nar .byte (((four >>> ((nI 16) &&& 31))).toInt8.toInt32)))) (by rw [nI_clamp (by omega)]) (ws' := [(t0, .inr (2, [.int (nI (tf + 1)), .int tu, .int tl, .ref t1, .int te, .int tk, .int tr, .int tb])), (t1, .inl (T 3, 900, .inl (upd (upd tx tf (vp_nar .byte (((four >>> ((nI 24) &&& 31))).toInt8.toInt32))) (tf + 1) (vp_nar .byte (((four >>> ((nI 16) &&& 31))).toInt8.toInt32)))))]) rfl dX2_putBytes_29 (fun H locs V => ?_)
      refine lv_aload_n hx hb dX2_putBytes_30 rfl (lv_at hl 1 rfl) ?_
      refine lv_dup hx hb dX2_putBytes_31 rfl ?_
      refine g_get hC V (ci := 2) uwX2 0 rfl rfl 0 (by decide) w_129 rfl rfl dX2_putBytes_32 ?_
      refine lv_iconst (v := (nI 1)) hx hb dX2_putBytes_35 (by decide +kernel) ?_
      refine lv_iadd hx hb dX2_putBytes_36 ?_
      refine g_vi (y := (nI ((tf + 1) + 1))) (nI_add _ _) ?_
      refine g_put hC V (ci := 2) uwX2 tyX2 tyX2_ok nmX2 0 rfl rfl 0 (by decide) w_129 rfl rfl rfl rfl (Nat.le_of_ble_eq_true rfl) (ws' := [(t0, .inr (2, [.int (nI ((tf + 1) + 1)), .int tu, .int tl, .ref t1, .int te, .int tk, .int tr, .int tb])), (t1, .inl (T 3, 900, .inl (upd (upd tx tf (vp_nar .byte (((four >>> ((nI 24) &&& 31))).toInt8.toInt32))) (tf + 1) (vp_nar .byte (((four >>> ((nI 16) &&& 31))).toInt8.toInt32)))))]) rfl dX2_putBytes_37 (fun H locs V => ?_)
      refine lv_iinc (v := (nI 8)) (lv' := [(2, .int (nI 8)), (0, .ref t0), (1, .int four)]) hx hb dX2_putBytes_40 hl (k := 0) rfl (by decide +kernel) (by decide) rfl (fun ls hl => ?_)
      refine lv_goto (tgt := 3) hx hb dX2_putBytes_43 (by decide) ?_
      refine lv_iload_n hx hb dX2_putBytes_3 rfl (lv_at hl 0 rfl) ?_
      refine lv_if_lt (tgt := 46) hx hb dX2_putBytes_4 (by decide) (fun c => absurd (show (nI 8) < 0 from c) (by decide +kernel)) (fun _ => ?_)
      refine lv_aload_n hx hb dX2_putBytes_7 rfl (lv_at hl 1 rfl) ?_
      refine g_get hC V (ci := 2) uwX2 0 rfl rfl 0 (by decide) w_129 rfl rfl dX2_putBytes_8 ?_
      refine lv_sipush (v := (nI 900)) hx hb dX2_putBytes_11 (by decide +kernel) ?_
      refine lv_icmp_ge (tgt := 46) hx hb dX2_putBytes_14 (by decide) (fun c_3 => ?_) (fun c_3 => ?_)
      · skip
        have c_3 := b_le (by omega) (by omega) c_3
        exact (by omega : False).elim
      · skip
        have c_3 := b_nle (by omega) (by omega) c_3
        refine lv_aload_n hx hb dX2_putBytes_17 rfl (lv_at hl 1 rfl) ?_
        refine g_get hC V (ci := 2) uwX2 0 rfl rfl 3 (by decide) w_134 rfl rfl dX2_putBytes_18 ?_
        refine lv_aload_n hx hb dX2_putBytes_21 rfl (lv_at hl 1 rfl) ?_
        refine g_get hC V (ci := 2) uwX2 0 rfl rfl 0 (by decide) w_129 rfl rfl dX2_putBytes_22 ?_
        refine lv_iload_n hx hb dX2_putBytes_25 rfl (lv_at hl 2 rfl) ?_
        refine lv_iload_n hx hb dX2_putBytes_26 rfl (lv_at hl 0 rfl) ?_
        refine lv_ishr hx hb dX2_putBytes_27 ?_
        refine lv_i2b hx hb dX2_putBytes_28 rfl ?_
        refine g_bast hC V 1 rfl (vp_in_nI (by omega) (by omega)) (f' := (upd (upd (upd tx tf (vp_nar .byte (((four >>> ((nI 24) &&& 31))).toInt8.toInt32))) (tf + 1) (vp_nar .byte (((four >>> ((nI 16) &&& 31))).toInt8.toInt32))) ((tf + 1) + 1) (vp_nar .byte (((four >>> ((nI 8) &&& 31))).toInt8.toInt32)))) (by rw [nI_clamp (by omega)]) (ws' := [(t0, .inr (2, [.int (nI ((tf + 1) + 1)), .int tu, .int tl, .ref t1, .int te, .int tk, .int tr, .int tb])), (t1, .inl (T 3, 900, .inl (upd (upd (upd tx tf (vp_nar .byte (((four >>> ((nI 24) &&& 31))).toInt8.toInt32))) (tf + 1) (vp_nar .byte (((four >>> ((nI 16) &&& 31))).toInt8.toInt32))) ((tf + 1) + 1) (vp_nar .byte (((four >>> ((nI 8) &&& 31))).toInt8.toInt32)))))]) rfl dX2_putBytes_29 (fun H locs V => ?_)
        refine lv_aload_n hx hb dX2_putBytes_30 rfl (lv_at hl 1 rfl) ?_
        refine lv_dup hx hb dX2_putBytes_31 rfl ?_
        refine g_get hC V (ci := 2) uwX2 0 rfl rfl 0 (by decide) w_129 rfl rfl dX2_putBytes_32 ?_
        refine lv_iconst (v := (nI 1)) hx hb dX2_putBytes_35 (by decide +kernel) ?_
        refine lv_iadd hx hb dX2_putBytes_36 ?_
        refine g_vi (y := (nI (((tf + 1) + 1) + 1))) (nI_add _ _) ?_
        refine g_put hC V (ci := 2) uwX2 tyX2 tyX2_ok nmX2 0 rfl rfl 0 (by decide) w_129 rfl rfl rfl rfl (Nat.le_of_ble_eq_true rfl) (ws' := [(t0, .inr (2, [.int (nI (((tf + 1) + 1) + 1)), .int tu, .int tl, .ref t1, .int te, .int tk, .int tr, .int tb])), (t1, .inl (T 3, 900, .inl (upd (upd (upd tx tf (vp_nar .byte (((four >>> ((nI 24) &&& 31))).toInt8.toInt32))) (tf + 1) (vp_nar .byte (((four >>> ((nI 16) &&& 31))).toInt8.toInt32))) ((tf + 1) + 1) (vp_nar .byte (((four >>> ((nI 8) &&& 31))).toInt8.toInt32)))))]) rfl dX2_putBytes_37 (fun H locs V => ?_)
        refine lv_iinc (v := (nI 0)) (lv' := [(2, .int (nI 0)), (0, .ref t0), (1, .int four)]) hx hb dX2_putBytes_40 hl (k := 0) rfl (by decide +kernel) (by decide) rfl (fun ls hl => ?_)
        refine lv_goto (tgt := 3) hx hb dX2_putBytes_43 (by decide) ?_
        refine lv_iload_n hx hb dX2_putBytes_3 rfl (lv_at hl 0 rfl) ?_
        refine lv_if_lt (tgt := 46) hx hb dX2_putBytes_4 (by decide) (fun c => absurd (show (nI 0) < 0 from c) (by decide +kernel)) (fun _ => ?_)
        refine lv_aload_n hx hb dX2_putBytes_7 rfl (lv_at hl 1 rfl) ?_
        refine g_get hC V (ci := 2) uwX2 0 rfl rfl 0 (by decide) w_129 rfl rfl dX2_putBytes_8 ?_
        refine lv_sipush (v := (nI 900)) hx hb dX2_putBytes_11 (by decide +kernel) ?_
        refine lv_icmp_ge (tgt := 46) hx hb dX2_putBytes_14 (by decide) (fun c_4 => ?_) (fun c_4 => ?_)
        · skip
          have c_4 := b_le (by omega) (by omega) c_4
          exact (by omega : False).elim
        · skip
          have c_4 := b_nle (by omega) (by omega) c_4
          refine lv_aload_n hx hb dX2_putBytes_17 rfl (lv_at hl 1 rfl) ?_
          refine g_get hC V (ci := 2) uwX2 0 rfl rfl 3 (by decide) w_134 rfl rfl dX2_putBytes_18 ?_
          refine lv_aload_n hx hb dX2_putBytes_21 rfl (lv_at hl 1 rfl) ?_
          refine g_get hC V (ci := 2) uwX2 0 rfl rfl 0 (by decide) w_129 rfl rfl dX2_putBytes_22 ?_
          refine lv_iload_n hx hb dX2_putBytes_25 rfl (lv_at hl 2 rfl) ?_
          refine lv_iload_n hx hb dX2_putBytes_26 rfl (lv_at hl 0 rfl) ?_
          refine lv_ishr hx hb dX2_putBytes_27 ?_
          refine lv_i2b hx hb dX2_putBytes_28 rfl ?_
          refine g_bast hC V 1 rfl (vp_in_nI (by omega) (by omega)) (f' := (upd (upd (upd (upd tx tf (vp_nar .byte (((four >>> ((nI 24) &&& 31))).toInt8.toInt32))) (tf + 1) (vp_nar .byte (((four >>> ((nI 16) &&& 31))).toInt8.toInt32))) ((tf + 1) + 1) (vp_nar .byte (((four >>> ((nI 8) &&& 31))).toInt8.toInt32))) (((tf + 1) + 1) + 1) (vp_nar .byte (((four >>> ((nI 0) &&& 31))).toInt8.toInt32)))) (by rw [nI_clamp (by omega)]) (ws' := [(t0, .inr (2, [.int (nI (((tf + 1) + 1) + 1)), .int tu, .int tl, .ref t1, .int te, .int tk, .int tr, .int tb])), (t1, .inl (T 3, 900, .inl (upd (upd (upd (upd tx tf (vp_nar .byte (((four >>> ((nI 24) &&& 31))).toInt8.toInt32))) (tf + 1) (vp_nar .byte (((four >>> ((nI 16) &&& 31))).toInt8.toInt32))) ((tf + 1) + 1) (vp_nar .byte (((four >>> ((nI 8) &&& 31))).toInt8.toInt32))) (((tf + 1) + 1) + 1) (vp_nar .byte (((four >>> ((nI 0) &&& 31))).toInt8.toInt32)))))]) rfl dX2_putBytes_29 (fun H locs V => ?_)
          refine lv_aload_n hx hb dX2_putBytes_30 rfl (lv_at hl 1 rfl) ?_
          refine lv_dup hx hb dX2_putBytes_31 rfl ?_
          refine g_get hC V (ci := 2) uwX2 0 rfl rfl 0 (by decide) w_129 rfl rfl dX2_putBytes_32 ?_
          refine lv_iconst (v := (nI 1)) hx hb dX2_putBytes_35 (by decide +kernel) ?_
          refine lv_iadd hx hb dX2_putBytes_36 ?_
          refine g_vi (y := (nI ((((tf + 1) + 1) + 1) + 1))) (nI_add _ _) ?_
          refine g_put hC V (ci := 2) uwX2 tyX2 tyX2_ok nmX2 0 rfl rfl 0 (by decide) w_129 rfl rfl rfl rfl (Nat.le_of_ble_eq_true rfl) (ws' := [(t0, .inr (2, [.int (nI ((((tf + 1) + 1) + 1) + 1)), .int tu, .int tl, .ref t1, .int te, .int tk, .int tr, .int tb])), (t1, .inl (T 3, 900, .inl (upd (upd (upd (upd tx tf (vp_nar .byte (((four >>> ((nI 24) &&& 31))).toInt8.toInt32))) (tf + 1) (vp_nar .byte (((four >>> ((nI 16) &&& 31))).toInt8.toInt32))) ((tf + 1) + 1) (vp_nar .byte (((four >>> ((nI 8) &&& 31))).toInt8.toInt32))) (((tf + 1) + 1) + 1) (vp_nar .byte (((four >>> ((nI 0) &&& 31))).toInt8.toInt32)))))]) rfl dX2_putBytes_37 (fun H locs V => ?_)
          refine lv_iinc (v := (-8)) (lv' := [(2, .int (-8)), (0, .ref t0), (1, .int four)]) hx hb dX2_putBytes_40 hl (k := 0) rfl (by decide +kernel) (by decide) rfl (fun ls hl => ?_)
          refine lv_goto (tgt := 3) hx hb dX2_putBytes_43 (by decide) ?_
          refine lv_iload_n hx hb dX2_putBytes_3 rfl (lv_at hl 0 rfl) ?_
          refine lv_if_lt (tgt := 46) hx hb dX2_putBytes_4 (by decide) (fun _ => ?_) (fun c => absurd (show (-8 : Int32) < 0 by decide +kernel) c)
          exact g_vret (Qr := (q_rd_putBytes T t0 four tf tu tl t1 te tk tr tb tx)) hC V ⟨(Nat.le_of_ble_eq_true rfl), (Nat.le_of_ble_eq_true rfl)⟩ ⟨((((tf + 1) + 1) + 1) + 1), (upd (upd (upd (upd tx tf (vp_nar .byte (((four >>> ((nI 24) &&& 31))).toInt8.toInt32))) (tf + 1) (vp_nar .byte (((four >>> ((nI 16) &&& 31))).toInt8.toInt32))) ((tf + 1) + 1) (vp_nar .byte (((four >>> ((nI 8) &&& 31))).toInt8.toInt32))) (((tf + 1) + 1) + 1) (vp_nar .byte (((four >>> ((nI 0) &&& 31))).toInt8.toInt32))), rfl, rfl, (by omega)⟩ dX2_putBytes_46

def q_rd_fail (T : Nat → ClassId) (t0 : Nat) (w : Int32) (tf : Nat) (tu : Int32) (tl : Int32) (t1 : Nat) (te : Nat) (tk : Int32) (tr : Nat) (tb : Nat) : Option Value → va_W → Prop := fun rr ww => (∃ (u2 : Int32) (l2 : Int32), rr = none ∧ ww = [(t0, .inr (2, [.int (nI tf), .int u2, .int l2, .ref t1, .int (nI te), .int tk, .int (nI tr), .int (nI tb)]))] ∧ ¬ u2 = 0)
set_option maxHeartbeats 4000000 in
set_option maxRecDepth 100000 in
theorem rd_fail (l : Launch) (D : va_G) (T : Nat → ClassId) (t0 : Nat) (w : Int32) (tf : Nat) (tu : Int32) (tl : Int32) (t1 : Nat) (te : Nat) (tk : Int32) (tr : Nat) (tb : Nat) (h_w : ¬ w = 0) : Ct l yX2_fail cX2_fail 2 none 0 0 0 D T [.ref t0, .int w] [(t0, .inr (2, [.int (nI tf), .int tu, .int tl, .ref t1, .int (nI te), .int tk, .int (nI tr), .int (nI tb)]))] (q_rd_fail T t0 w tf tu tl t1 te tk tr tb) := by
  refine Ct.of (cc := cX2_fail) (maxL := 2) (ret := none) (by decide) (Nat.le_of_ble_eq_true rfl) ?_
  intro p e s m args below meth c A ls hC hnm V hl
  obtain ⟨hx, hb, hr, hml, hown, hts, hlocks⟩ := id hC
  generalize hH : s.heap = H at V ⊢
  clear hH
  have hl : lv_has ls 2 [(0, .ref t0), (1, .int w)] := hl
  generalize hlo : ([] : List Loc) = locs at V ⊢
  clear hlo
  refine lv_aload_n hx hb dX2_fail_0 rfl (lv_at hl 0 rfl) ?_
  refine g_get hC V (ci := 2) uwX2 0 rfl rfl 1 (by decide) w_130 rfl rfl dX2_fail_1 ?_
  refine lv_if_ne (tgt := 20) hx hb dX2_fail_4 (by decide) (fun c_1 => ?_) (fun c_1 => ?_)
  · skip
    exact g_vret (Qr := (q_rd_fail T t0 w tf tu tl t1 te tk tr tb)) hC V ⟨(Nat.le_of_ble_eq_true rfl), (Nat.le_of_ble_eq_true rfl)⟩ ⟨tu, tl, rfl, rfl, (by first | assumption | omega)⟩ dX2_fail_20
  · skip
    refine lv_aload_n hx hb dX2_fail_7 rfl (lv_at hl 0 rfl) ?_
    refine lv_iload_n hx hb dX2_fail_8 rfl (lv_at hl 1 rfl) ?_
    refine g_put hC V (ci := 2) uwX2 tyX2 tyX2_ok nmX2 0 rfl rfl 1 (by decide) w_130 rfl rfl rfl rfl (Nat.le_of_ble_eq_true rfl) (ws' := [(t0, .inr (2, [.int (nI tf), .int w, .int tl, .ref t1, .int (nI te), .int tk, .int (nI tr), .int (nI tb)]))]) rfl dX2_fail_9 (fun H locs V => ?_)
    refine lv_aload_n hx hb dX2_fail_12 rfl (lv_at hl 0 rfl) ?_
    refine lv_aload_n hx hb dX2_fail_13 rfl (lv_at hl 0 rfl) ?_
    refine g_get hC V (ci := 2) uwX2 0 rfl rfl 6 (by decide) w_137 rfl rfl dX2_fail_14 ?_
    refine g_put hC V (ci := 2) uwX2 tyX2 tyX2_ok nmX2 0 rfl rfl 2 (by decide) w_132 rfl rfl rfl rfl (Nat.le_of_ble_eq_true rfl) (ws' := [(t0, .inr (2, [.int (nI tf), .int w, .int (nI tr), .ref t1, .int (nI te), .int tk, .int (nI tr), .int (nI tb)]))]) rfl dX2_fail_17 (fun H locs V => ?_)
    exact g_vret (Qr := (q_rd_fail T t0 w tf tu tl t1 te tk tr tb)) hC V ⟨(Nat.le_of_ble_eq_true rfl), (Nat.le_of_ble_eq_true rfl)⟩ ⟨w, (nI tr), rfl, rfl, (by first | assumption | omega)⟩ dX2_fail_20

def q_rd_kindAt (T : Nat → ClassId) (t0 : Nat) (j : Nat) (tf : Nat) (tu : Int32) (tl : Int32) (t1 : Nat) (te : Nat) (tk : Int32) (tr : Nat) (tb : Nat) (tx : Nat → Int32) : Option Value → va_W → Prop := fun rr ww => (∃ (z : Int32), rr = some (.int z) ∧ ww = [(t0, .inr (2, [.int (nI tf), .int tu, .int tl, .ref t1, .int (nI te), .int tk, .int (nI tr), .int (nI tb)])), (t1, .inl (T 3, 900, .inl tx))])
set_option maxHeartbeats 4000000 in
set_option maxRecDepth 100000 in
theorem rd_kindAt (l : Launch) (D : va_G) (T : Nat → ClassId) (t0 : Nat) (j : Nat) (tf : Nat) (tu : Int32) (tl : Int32) (t1 : Nat) (te : Nat) (tk : Int32) (tr : Nat) (tb : Nat) (tx : Nat → Int32) (h_e : te ≤ 900) (h_j : j ≤ te) : Ct l yX2_kindAt cX2_kindAt 3 (some .int) 0 0 0 D T [.ref t0, .int (nI j)] [(t0, .inr (2, [.int (nI tf), .int tu, .int tl, .ref t1, .int (nI te), .int tk, .int (nI tr), .int (nI tb)])), (t1, .inl (T 3, 900, .inl tx))] (q_rd_kindAt T t0 j tf tu tl t1 te tk tr tb tx) := by
  refine Ct.of (cc := cX2_kindAt) (maxL := 3) (ret := (some .int)) (by decide) (Nat.le_of_ble_eq_true rfl) ?_
  intro p e s m args below meth c A ls hC hnm V hl
  obtain ⟨hx, hb, hr, hml, hown, hts, hlocks⟩ := id hC
  generalize hH : s.heap = H at V ⊢
  clear hH
  have hl : lv_has ls 3 [(0, .ref t0), (1, .int (nI j))] := hl
  generalize hlo : ([] : List Loc) = locs at V ⊢
  clear hlo
  refine lv_iload_n hx hb dX2_kindAt_0 rfl (lv_at hl 1 rfl) ?_
  refine lv_aload_n hx hb dX2_kindAt_1 rfl (lv_at hl 0 rfl) ?_
  refine g_get hC V (ci := 2) uwX2 0 rfl rfl 4 (by decide) w_135 rfl rfl dX2_kindAt_2 ?_
  refine lv_icmp_lt (tgt := 10) hx hb dX2_kindAt_5 (by decide) (fun c_1 => ?_) (fun c_1 => ?_)
  · skip
    have c_1 := b_lt (by omega) (by omega) c_1
    refine lv_aload_n hx hb dX2_kindAt_10 rfl (lv_at hl 0 rfl) ?_
    refine g_get hC V (ci := 2) uwX2 0 rfl rfl 3 (by decide) w_134 rfl rfl dX2_kindAt_11 ?_
    refine lv_iload_n hx hb dX2_kindAt_14 rfl (lv_at hl 1 rfl) ?_
    refine g_bald hC V 1 rfl (vp_in_nI (by omega) (by omega)) (v := (tx j)) (congrArg _ (nI_clamp (by omega))) dX2_kindAt_15 ?_
    refine lv_istore_n (lv' := [(2, .int (tx j)), (0, .ref t0), (1, .int (nI j))]) hx hb dX2_kindAt_16 rfl hl (by decide) rfl (fun ls hl => ?_)
    refine lv_iload_n hx hb dX2_kindAt_17 rfl (lv_at hl 0 rfl) ?_
    refine lv_bipush (v := (nI 97)) hx hb dX2_kindAt_18 (by decide +kernel) ?_
    refine lv_icmp_lt (tgt := 31) hx hb dX2_kindAt_20 (by decide) (fun c_2 => ?_) (fun c_2 => ?_)
    · skip
      refine lv_iload_n hx hb dX2_kindAt_31 rfl (lv_at hl 0 rfl) ?_
      refine lv_bipush (v := (nI 48)) hx hb dX2_kindAt_32 (by decide +kernel) ?_
      refine lv_icmp_lt (tgt := 45) hx hb dX2_kindAt_34 (by decide) (fun c_3 => ?_) (fun c_3 => ?_)
      · skip
        refine lv_iload_n hx hb dX2_kindAt_45 rfl (lv_at hl 0 rfl) ?_
        refine lv_bipush (v := (nI 10)) hx hb dX2_kindAt_46 (by decide +kernel) ?_
        refine lv_icmp_eq (tgt := 57) hx hb dX2_kindAt_48 (by decide) (fun c_4 => ?_) (fun c_4 => ?_)
        · skip
          refine lv_iconst (v := (nI 4)) hx hb dX2_kindAt_57 (by decide +kernel) ?_
          exact g_iret (Qr := (q_rd_kindAt T t0 j tf tu tl t1 te tk tr tb tx)) hC V ⟨(Nat.le_of_ble_eq_true rfl), (Nat.le_of_ble_eq_true rfl)⟩ ⟨(nI 4), rfl, rfl⟩ dX2_kindAt_58
        · skip
          refine lv_iload_n hx hb dX2_kindAt_51 rfl (lv_at hl 0 rfl) ?_
          refine lv_bipush (v := (nI 32)) hx hb dX2_kindAt_52 (by decide +kernel) ?_
          refine lv_icmp_ne (tgt := 59) hx hb dX2_kindAt_54 (by decide) (fun c_5 => ?_) (fun c_5 => ?_)
          · skip
            refine lv_iload_n hx hb dX2_kindAt_59 rfl (lv_at hl 0 rfl) ?_
            refine lv_bipush (v := (nI 59)) hx hb dX2_kindAt_60 (by decide +kernel) ?_
            refine lv_icmp_ne (tgt := 69) hx hb dX2_kindAt_62 (by decide) (fun c_6 => ?_) (fun c_6 => ?_)
            · skip
              refine lv_bipush (v := (nI 6)) hx hb dX2_kindAt_69 (by decide +kernel) ?_
              exact g_iret (Qr := (q_rd_kindAt T t0 j tf tu tl t1 te tk tr tb tx)) hC V ⟨(Nat.le_of_ble_eq_true rfl), (Nat.le_of_ble_eq_true rfl)⟩ ⟨(nI 6), rfl, rfl⟩ dX2_kindAt_71
            · skip
              refine lv_iconst (v := (nI 3)) hx hb dX2_kindAt_65 (by decide +kernel) ?_
              refine lv_goto (tgt := 71) hx hb dX2_kindAt_66 (by decide) ?_
              exact g_iret (Qr := (q_rd_kindAt T t0 j tf tu tl t1 te tk tr tb tx)) hC V ⟨(Nat.le_of_ble_eq_true rfl), (Nat.le_of_ble_eq_true rfl)⟩ ⟨(nI 3), rfl, rfl⟩ dX2_kindAt_71
          · skip
            refine lv_iconst (v := (nI 4)) hx hb dX2_kindAt_57 (by decide +kernel) ?_
            exact g_iret (Qr := (q_rd_kindAt T t0 j tf tu tl t1 te tk tr tb tx)) hC V ⟨(Nat.le_of_ble_eq_true rfl), (Nat.le_of_ble_eq_true rfl)⟩ ⟨(nI 4), rfl, rfl⟩ dX2_kindAt_58
      · skip
        refine lv_iload_n hx hb dX2_kindAt_37 rfl (lv_at hl 0 rfl) ?_
        refine lv_bipush (v := (nI 57)) hx hb dX2_kindAt_38 (by decide +kernel) ?_
        refine lv_icmp_gt (tgt := 45) hx hb dX2_kindAt_40 (by decide) (fun c_7 => ?_) (fun c_7 => ?_)
        · skip
          refine lv_iload_n hx hb dX2_kindAt_45 rfl (lv_at hl 0 rfl) ?_
          refine lv_bipush (v := (nI 10)) hx hb dX2_kindAt_46 (by decide +kernel) ?_
          refine lv_icmp_eq (tgt := 57) hx hb dX2_kindAt_48 (by decide) (fun c_8 => ?_) (fun c_8 => ?_)
          · skip
            refine lv_iconst (v := (nI 4)) hx hb dX2_kindAt_57 (by decide +kernel) ?_
            exact g_iret (Qr := (q_rd_kindAt T t0 j tf tu tl t1 te tk tr tb tx)) hC V ⟨(Nat.le_of_ble_eq_true rfl), (Nat.le_of_ble_eq_true rfl)⟩ ⟨(nI 4), rfl, rfl⟩ dX2_kindAt_58
          · skip
            refine lv_iload_n hx hb dX2_kindAt_51 rfl (lv_at hl 0 rfl) ?_
            refine lv_bipush (v := (nI 32)) hx hb dX2_kindAt_52 (by decide +kernel) ?_
            refine lv_icmp_ne (tgt := 59) hx hb dX2_kindAt_54 (by decide) (fun c_9 => ?_) (fun c_9 => ?_)
            · skip
              refine lv_iload_n hx hb dX2_kindAt_59 rfl (lv_at hl 0 rfl) ?_
              refine lv_bipush (v := (nI 59)) hx hb dX2_kindAt_60 (by decide +kernel) ?_
              refine lv_icmp_ne (tgt := 69) hx hb dX2_kindAt_62 (by decide) (fun c_10 => ?_) (fun c_10 => ?_)
              · skip
                refine lv_bipush (v := (nI 6)) hx hb dX2_kindAt_69 (by decide +kernel) ?_
                exact g_iret (Qr := (q_rd_kindAt T t0 j tf tu tl t1 te tk tr tb tx)) hC V ⟨(Nat.le_of_ble_eq_true rfl), (Nat.le_of_ble_eq_true rfl)⟩ ⟨(nI 6), rfl, rfl⟩ dX2_kindAt_71
              · skip
                refine lv_iconst (v := (nI 3)) hx hb dX2_kindAt_65 (by decide +kernel) ?_
                refine lv_goto (tgt := 71) hx hb dX2_kindAt_66 (by decide) ?_
                exact g_iret (Qr := (q_rd_kindAt T t0 j tf tu tl t1 te tk tr tb tx)) hC V ⟨(Nat.le_of_ble_eq_true rfl), (Nat.le_of_ble_eq_true rfl)⟩ ⟨(nI 3), rfl, rfl⟩ dX2_kindAt_71
            · skip
              refine lv_iconst (v := (nI 4)) hx hb dX2_kindAt_57 (by decide +kernel) ?_
              exact g_iret (Qr := (q_rd_kindAt T t0 j tf tu tl t1 te tk tr tb tx)) hC V ⟨(Nat.le_of_ble_eq_true rfl), (Nat.le_of_ble_eq_true rfl)⟩ ⟨(nI 4), rfl, rfl⟩ dX2_kindAt_58
        · skip
          refine lv_iconst (v := (nI 2)) hx hb dX2_kindAt_43 (by decide +kernel) ?_
          exact g_iret (Qr := (q_rd_kindAt T t0 j tf tu tl t1 te tk tr tb tx)) hC V ⟨(Nat.le_of_ble_eq_true rfl), (Nat.le_of_ble_eq_true rfl)⟩ ⟨(nI 2), rfl, rfl⟩ dX2_kindAt_44
    · skip
      refine lv_iload_n hx hb dX2_kindAt_23 rfl (lv_at hl 0 rfl) ?_
      refine lv_bipush (v := (nI 122)) hx hb dX2_kindAt_24 (by decide +kernel) ?_
      refine lv_icmp_gt (tgt := 31) hx hb dX2_kindAt_26 (by decide) (fun c_11 => ?_) (fun c_11 => ?_)
      · skip
        refine lv_iload_n hx hb dX2_kindAt_31 rfl (lv_at hl 0 rfl) ?_
        refine lv_bipush (v := (nI 48)) hx hb dX2_kindAt_32 (by decide +kernel) ?_
        refine lv_icmp_lt (tgt := 45) hx hb dX2_kindAt_34 (by decide) (fun c_12 => ?_) (fun c_12 => ?_)
        · skip
          refine lv_iload_n hx hb dX2_kindAt_45 rfl (lv_at hl 0 rfl) ?_
          refine lv_bipush (v := (nI 10)) hx hb dX2_kindAt_46 (by decide +kernel) ?_
          refine lv_icmp_eq (tgt := 57) hx hb dX2_kindAt_48 (by decide) (fun c_13 => ?_) (fun c_13 => ?_)
          · skip
            refine lv_iconst (v := (nI 4)) hx hb dX2_kindAt_57 (by decide +kernel) ?_
            exact g_iret (Qr := (q_rd_kindAt T t0 j tf tu tl t1 te tk tr tb tx)) hC V ⟨(Nat.le_of_ble_eq_true rfl), (Nat.le_of_ble_eq_true rfl)⟩ ⟨(nI 4), rfl, rfl⟩ dX2_kindAt_58
          · skip
            refine lv_iload_n hx hb dX2_kindAt_51 rfl (lv_at hl 0 rfl) ?_
            refine lv_bipush (v := (nI 32)) hx hb dX2_kindAt_52 (by decide +kernel) ?_
            refine lv_icmp_ne (tgt := 59) hx hb dX2_kindAt_54 (by decide) (fun c_14 => ?_) (fun c_14 => ?_)
            · skip
              refine lv_iload_n hx hb dX2_kindAt_59 rfl (lv_at hl 0 rfl) ?_
              refine lv_bipush (v := (nI 59)) hx hb dX2_kindAt_60 (by decide +kernel) ?_
              refine lv_icmp_ne (tgt := 69) hx hb dX2_kindAt_62 (by decide) (fun c_15 => ?_) (fun c_15 => ?_)
              · skip
                refine lv_bipush (v := (nI 6)) hx hb dX2_kindAt_69 (by decide +kernel) ?_
                exact g_iret (Qr := (q_rd_kindAt T t0 j tf tu tl t1 te tk tr tb tx)) hC V ⟨(Nat.le_of_ble_eq_true rfl), (Nat.le_of_ble_eq_true rfl)⟩ ⟨(nI 6), rfl, rfl⟩ dX2_kindAt_71
              · skip
                refine lv_iconst (v := (nI 3)) hx hb dX2_kindAt_65 (by decide +kernel) ?_
                refine lv_goto (tgt := 71) hx hb dX2_kindAt_66 (by decide) ?_
                exact g_iret (Qr := (q_rd_kindAt T t0 j tf tu tl t1 te tk tr tb tx)) hC V ⟨(Nat.le_of_ble_eq_true rfl), (Nat.le_of_ble_eq_true rfl)⟩ ⟨(nI 3), rfl, rfl⟩ dX2_kindAt_71
            · skip
              refine lv_iconst (v := (nI 4)) hx hb dX2_kindAt_57 (by decide +kernel) ?_
              exact g_iret (Qr := (q_rd_kindAt T t0 j tf tu tl t1 te tk tr tb tx)) hC V ⟨(Nat.le_of_ble_eq_true rfl), (Nat.le_of_ble_eq_true rfl)⟩ ⟨(nI 4), rfl, rfl⟩ dX2_kindAt_58
        · skip
          refine lv_iload_n hx hb dX2_kindAt_37 rfl (lv_at hl 0 rfl) ?_
          refine lv_bipush (v := (nI 57)) hx hb dX2_kindAt_38 (by decide +kernel) ?_
          refine lv_icmp_gt (tgt := 45) hx hb dX2_kindAt_40 (by decide) (fun c_16 => ?_) (fun c_16 => ?_)
          · skip
            refine lv_iload_n hx hb dX2_kindAt_45 rfl (lv_at hl 0 rfl) ?_
            refine lv_bipush (v := (nI 10)) hx hb dX2_kindAt_46 (by decide +kernel) ?_
            refine lv_icmp_eq (tgt := 57) hx hb dX2_kindAt_48 (by decide) (fun c_17 => ?_) (fun c_17 => ?_)
            · skip
              refine lv_iconst (v := (nI 4)) hx hb dX2_kindAt_57 (by decide +kernel) ?_
              exact g_iret (Qr := (q_rd_kindAt T t0 j tf tu tl t1 te tk tr tb tx)) hC V ⟨(Nat.le_of_ble_eq_true rfl), (Nat.le_of_ble_eq_true rfl)⟩ ⟨(nI 4), rfl, rfl⟩ dX2_kindAt_58
            · skip
              refine lv_iload_n hx hb dX2_kindAt_51 rfl (lv_at hl 0 rfl) ?_
              refine lv_bipush (v := (nI 32)) hx hb dX2_kindAt_52 (by decide +kernel) ?_
              refine lv_icmp_ne (tgt := 59) hx hb dX2_kindAt_54 (by decide) (fun c_18 => ?_) (fun c_18 => ?_)
              · skip
                refine lv_iload_n hx hb dX2_kindAt_59 rfl (lv_at hl 0 rfl) ?_
                refine lv_bipush (v := (nI 59)) hx hb dX2_kindAt_60 (by decide +kernel) ?_
                refine lv_icmp_ne (tgt := 69) hx hb dX2_kindAt_62 (by decide) (fun c_19 => ?_) (fun c_19 => ?_)
                · skip
                  refine lv_bipush (v := (nI 6)) hx hb dX2_kindAt_69 (by decide +kernel) ?_
                  exact g_iret (Qr := (q_rd_kindAt T t0 j tf tu tl t1 te tk tr tb tx)) hC V ⟨(Nat.le_of_ble_eq_true rfl), (Nat.le_of_ble_eq_true rfl)⟩ ⟨(nI 6), rfl, rfl⟩ dX2_kindAt_71
                · skip
                  refine lv_iconst (v := (nI 3)) hx hb dX2_kindAt_65 (by decide +kernel) ?_
                  refine lv_goto (tgt := 71) hx hb dX2_kindAt_66 (by decide) ?_
                  exact g_iret (Qr := (q_rd_kindAt T t0 j tf tu tl t1 te tk tr tb tx)) hC V ⟨(Nat.le_of_ble_eq_true rfl), (Nat.le_of_ble_eq_true rfl)⟩ ⟨(nI 3), rfl, rfl⟩ dX2_kindAt_71
              · skip
                refine lv_iconst (v := (nI 4)) hx hb dX2_kindAt_57 (by decide +kernel) ?_
                exact g_iret (Qr := (q_rd_kindAt T t0 j tf tu tl t1 te tk tr tb tx)) hC V ⟨(Nat.le_of_ble_eq_true rfl), (Nat.le_of_ble_eq_true rfl)⟩ ⟨(nI 4), rfl, rfl⟩ dX2_kindAt_58
          · skip
            refine lv_iconst (v := (nI 2)) hx hb dX2_kindAt_43 (by decide +kernel) ?_
            exact g_iret (Qr := (q_rd_kindAt T t0 j tf tu tl t1 te tk tr tb tx)) hC V ⟨(Nat.le_of_ble_eq_true rfl), (Nat.le_of_ble_eq_true rfl)⟩ ⟨(nI 2), rfl, rfl⟩ dX2_kindAt_44
      · skip
        refine lv_iconst (v := (nI 1)) hx hb dX2_kindAt_29 (by decide +kernel) ?_
        exact g_iret (Qr := (q_rd_kindAt T t0 j tf tu tl t1 te tk tr tb tx)) hC V ⟨(Nat.le_of_ble_eq_true rfl), (Nat.le_of_ble_eq_true rfl)⟩ ⟨(nI 1), rfl, rfl⟩ dX2_kindAt_30
  · skip
    have c_1 := b_nlt (by omega) (by omega) c_1
    refine lv_iconst (v := (nI 5)) hx hb dX2_kindAt_8 (by decide +kernel) ?_
    exact g_iret (Qr := (q_rd_kindAt T t0 j tf tu tl t1 te tk tr tb tx)) hC V ⟨(Nat.le_of_ble_eq_true rfl), (Nat.le_of_ble_eq_true rfl)⟩ ⟨(nI 5), rfl, rfl⟩ dX2_kindAt_9

def q_rd_next (T : Nat → ClassId) (t0 : Nat) (tf : Nat) (tu : Int32) (tl : Int32) (t1 : Nat) (te : Nat) (tk : Int32) (tr : Int32) (tb : Nat) (tx : Nat → Int32) : Option Value → va_W → Prop := fun rr ww => (∃ (u2 : Int32) (l2 : Int32) (k2 : Int32) (r2 : Nat) (b2 : Nat), rr = none ∧ ww = [(t0, .inr (2, [.int (nI tf), .int u2, .int l2, .ref t1, .int (nI te), .int k2, .int (nI r2), .int (nI b2)])), (t1, .inl (T 3, 900, .inl tx))] ∧ (u2 = 0 → tu = 0) ∧ (r2 ≤ b2 ∧ b2 ≤ te))
set_option maxHeartbeats 4000000 in
set_option maxRecDepth 100000 in
theorem rd_next (l : Launch) (D : va_G) (T : Nat → ClassId) (t0 : Nat) (tf : Nat) (tu : Int32) (tl : Int32) (t1 : Nat) (te : Nat) (tk : Int32) (tr : Int32) (tb : Nat) (tx : Nat → Int32) (h_e : te ≤ 900) (h_b : tb ≤ te) : Ct l yX2_nextToken cX2_nextToken 1 none 1 0 0 D T [.ref t0] [(t0, .inr (2, [.int (nI tf), .int tu, .int tl, .ref t1, .int (nI te), .int tk, .int tr, .int (nI tb)])), (t1, .inl (T 3, 900, .inl tx))] (q_rd_next T t0 tf tu tl t1 te tk tr tb tx) := by
  refine Ct.of (cc := cX2_nextToken) (maxL := 1) (ret := none) (by decide) (Nat.le_of_ble_eq_true rfl) ?_
  intro p e s m args below meth c A ls hC hnm V hl
  obtain ⟨hx, hb, hr, hml, hown, hts, hlocks⟩ := id hC
  generalize hH : s.heap = H at V ⊢
  clear hH
  have hl : lv_has ls 1 [(0, .ref t0)] := hl
  generalize hlo : ([] : List Loc) = locs at V ⊢
  clear hlo
  refine lv_aload_n hx hb dX2_nextToken_0 rfl (lv_at hl 0 rfl) ?_
  refine lv_aload_n hx hb dX2_nextToken_1 rfl (lv_at hl 0 rfl) ?_
  refine g_get hC V (ci := 2) uwX2 0 rfl rfl 7 (by decide) w_138 rfl rfl dX2_nextToken_2 ?_
  refine g_put hC V (ci := 2) uwX2 tyX2 tyX2_ok nmX2 0 rfl rfl 6 (by decide) w_137 rfl rfl rfl rfl (Nat.le_of_ble_eq_true rfl) (ws' := [(t0, .inr (2, [.int (nI tf), .int tu, .int tl, .ref t1, .int (nI te), .int tk, .int (nI tb), .int (nI tb)])), (t1, .inl (T 3, 900, .inl tx))]) rfl dX2_nextToken_5 (fun H locs V => ?_)
  have L_1 : ∀ (fu : Nat) (fr : Nat), fr ≤ te → te - fr < fu → ∀ (H : Heap) (locs : List Loc) (ls : Array Slot), gW D T A s [(t0, .inr (2, [.int (nI tf), .int tu, .int tl, .ref t1, .int (nI te), .int tk, .int (nI fr), .int (nI tb)])), (t1, .inl (T 3, 900, .inl tx))] H locs → lv_has ls 1 [(0, .ref t0)] → W p l e (rmD 1 0 0) s m args below meth c H locs 0 0 (MQ below (gQ D A (q_rd_next T t0 tf tu tl t1 te tk tr tb tx)) args s 0 0 A) (F0 m 8 ls []) := by
    intro fu_8
    induction fu_8 with
    | zero => intro fr hfr hmu; exact absurd hmu (Nat.not_lt_zero _)
    | succ fu_8 ih_8 =>
      intro fr hfr hmu_8 H locs ls V hl
      refine lv_aload_n hx hb dX2_nextToken_8 rfl (lv_at hl 0 rfl) ?_
      refine g_get hC V (ci := 2) uwX2 0 rfl rfl 6 (by decide) w_137 rfl rfl dX2_nextToken_9 ?_
      refine lv_aload_n hx hb dX2_nextToken_12 rfl (lv_at hl 0 rfl) ?_
      refine g_get hC V (ci := 2) uwX2 0 rfl rfl 4 (by decide) w_135 rfl rfl dX2_nextToken_13 ?_
      refine lv_icmp_ge (tgt := 44) hx hb dX2_nextToken_16 (by decide) (fun c_2 => ?_) (fun c_2 => ?_)
      · skip
        have c_2 := b_le (by omega) (by omega) c_2
        refine lv_aload_n hx hb dX2_nextToken_44 rfl (lv_at hl 0 rfl) ?_
        refine lv_aload_n hx hb dX2_nextToken_45 rfl (lv_at hl 0 rfl) ?_
        refine lv_aload_n hx hb dX2_nextToken_46 rfl (lv_at hl 0 rfl) ?_
        refine g_get hC V (ci := 2) uwX2 0 rfl rfl 6 (by decide) w_137 rfl rfl dX2_nextToken_47 ?_
        refine g_callV (wr := []) (nA := 1) hC V hl.1 (rd_kindAt l D T t0 fr tf tu tl t1 te tk fr tb tx (by first | assumption | omega) (by first | assumption | omega)) w_313 w_315 w_s1 w_4 w_316 (by decide +kernel) rfl ⟨(Nat.le_of_ble_eq_true rfl), (Nat.le_of_ble_eq_true rfl)⟩ 0 (ci := 2) rfl rfl [0, 1] [] rfl rfl rfl rfl (by decide) (Nat.le_of_ble_eq_true rfl) dX2_nextToken_50 ⟨(Nat.le_of_ble_eq_true rfl), (Nat.le_of_ble_eq_true rfl)⟩ rfl (fun r w1 H locs hQ V => ?_)
        obtain ⟨z_3, rfl, rfl⟩ := hQ
        have V : gW D T A s [(t0, .inr (2, [.int (nI tf), .int tu, .int tl, .ref t1, .int (nI te), .int tk, .int (nI fr), .int (nI tb)])), (t1, .inl (T 3, 900, .inl tx))] H locs := V
        show W p l e _ s m args below meth c H locs _ _ _ (F0 m 53 ls [.int z_3, .ref t0])
        refine g_put hC V (ci := 2) uwX2 tyX2 tyX2_ok nmX2 0 rfl rfl 5 (by decide) w_136 rfl rfl rfl rfl (Nat.le_of_ble_eq_true rfl) (ws' := [(t0, .inr (2, [.int (nI tf), .int tu, .int tl, .ref t1, .int (nI te), .int z_3, .int (nI fr), .int (nI tb)])), (t1, .inl (T 3, 900, .inl tx))]) rfl dX2_nextToken_53 (fun H locs V => ?_)
        refine lv_aload_n hx hb dX2_nextToken_56 rfl (lv_at hl 0 rfl) ?_
        refine lv_aload_n hx hb dX2_nextToken_57 rfl (lv_at hl 0 rfl) ?_
        refine g_get hC V (ci := 2) uwX2 0 rfl rfl 6 (by decide) w_137 rfl rfl dX2_nextToken_58 ?_
        refine lv_iconst (v := (nI 1)) hx hb dX2_nextToken_61 (by decide +kernel) ?_
        refine lv_iadd hx hb dX2_nextToken_62 ?_
        refine g_vi (y := (nI (fr + 1))) (nI_add _ _) ?_
        refine lv_aload_n hx hb dX2_nextToken_63 rfl (lv_at hl 0 rfl) ?_
        refine g_get hC V (ci := 2) uwX2 0 rfl rfl 4 (by decide) w_135 rfl rfl dX2_nextToken_64 ?_
        refine va_mmin hx hb (hml.trans hl.1.symm) hown (hts _ w_299) (hts _ w_300) (hts _ w_10) (hts _ w_301) (Nat.le_of_ble_eq_true rfl) (Nat.le_of_ble_eq_true rfl) (Nat.le_of_ble_eq_true rfl) (Nat.le_of_ble_eq_true rfl) dX2_nextToken_67 ?_
        refine g_vi (y := (nI (min (fr + 1) te))) (min_nI (by omega) (by omega)) ?_
        refine g_put hC V (ci := 2) uwX2 tyX2 tyX2_ok nmX2 0 rfl rfl 7 (by decide) w_138 rfl rfl rfl rfl (Nat.le_of_ble_eq_true rfl) (ws' := [(t0, .inr (2, [.int (nI tf), .int tu, .int tl, .ref t1, .int (nI te), .int z_3, .int (nI fr), .int (nI (min (fr + 1) te))])), (t1, .inl (T 3, 900, .inl tx))]) rfl dX2_nextToken_70 (fun H locs V => ?_)
        have L_4 : ∀ (fu : Nat) (be : Nat), (fr ≤ be ∧ be ≤ te) → te - be < fu → ∀ (H : Heap) (locs : List Loc) (ls : Array Slot), gW D T A s [(t0, .inr (2, [.int (nI tf), .int tu, .int tl, .ref t1, .int (nI te), .int z_3, .int (nI fr), .int (nI be)])), (t1, .inl (T 3, 900, .inl tx))] H locs → lv_has ls 1 [(0, .ref t0)] → W p l e (rmD 1 0 0) s m args below meth c H locs 0 0 (MQ below (gQ D A (q_rd_next T t0 tf tu tl t1 te tk tr tb tx)) args s 0 0 A) (F0 m 73 ls []) := by
          intro fu_73
          induction fu_73 with
          | zero => intro be hbe hmu; exact absurd hmu (Nat.not_lt_zero _)
          | succ fu_73 ih_73 =>
            intro be hbe hmu_73 H locs ls V hl
            refine lv_aload_n hx hb dX2_nextToken_73 rfl (lv_at hl 0 rfl) ?_
            refine g_get hC V (ci := 2) uwX2 0 rfl rfl 7 (by decide) w_138 rfl rfl dX2_nextToken_74 ?_
            refine lv_aload_n hx hb dX2_nextToken_77 rfl (lv_at hl 0 rfl) ?_
            refine g_get hC V (ci := 2) uwX2 0 rfl rfl 4 (by decide) w_135 rfl rfl dX2_nextToken_78 ?_
            refine lv_icmp_ge (tgt := 128) hx hb dX2_nextToken_81 (by decide) (fun c_5 => ?_) (fun c_5 => ?_)
            · skip
              have c_5 := b_le (by omega) (by omega) c_5
              refine lv_aload_n hx hb dX2_nextToken_128 rfl (lv_at hl 0 rfl) ?_
              refine g_get hC V (ci := 2) uwX2 0 rfl rfl 5 (by decide) w_136 rfl rfl dX2_nextToken_129 ?_
              refine lv_bipush (v := (nI 6)) hx hb dX2_nextToken_132 (by decide +kernel) ?_
              refine lv_icmp_eq (tgt := 158) hx hb dX2_nextToken_134 (by decide) (fun c_6 => ?_) (fun c_6 => ?_)
              · skip
                refine lv_aload_n hx hb dX2_nextToken_158 rfl (lv_at hl 0 rfl) ?_
                refine lv_bipush (v := (nI 6)) hx hb dX2_nextToken_159 (by decide +kernel) ?_
                refine g_put hC V (ci := 2) uwX2 tyX2 tyX2_ok nmX2 0 rfl rfl 5 (by decide) w_136 rfl rfl rfl rfl (Nat.le_of_ble_eq_true rfl) (ws' := [(t0, .inr (2, [.int (nI tf), .int tu, .int tl, .ref t1, .int (nI te), .int (nI 6), .int (nI fr), .int (nI be)])), (t1, .inl (T 3, 900, .inl tx))]) rfl dX2_nextToken_161 (fun H locs V => ?_)
                refine lv_aload_n hx hb dX2_nextToken_164 rfl (lv_at hl 0 rfl) ?_
                refine lv_iconst (v := (nI 1)) hx hb dX2_nextToken_165 (by decide +kernel) ?_
                refine g_callV (wr := [(t1, .inl (T 3, 900, .inl tx))]) (nA := 1) hC V hl.1 (rd_fail l D T t0 (nI 1) tf tu tl t1 te (nI 6) fr be (by decide +kernel)) w_317 w_319 w_s2 w_4 w_320 (by decide +kernel) rfl ⟨(Nat.le_of_ble_eq_true rfl), (Nat.le_of_ble_eq_true rfl)⟩ 0 (ci := 2) rfl rfl [0] [1] rfl rfl rfl rfl (by decide) (Nat.le_of_ble_eq_true rfl) dX2_nextToken_166 ⟨(Nat.le_of_ble_eq_true rfl), (Nat.le_of_ble_eq_true rfl)⟩ rfl (fun r w1 H locs hQ V => ?_)
                obtain ⟨u2_7, l2_8, rfl, rfl, f_9⟩ := hQ
                have V : gW D T A s [(t1, .inl (T 3, 900, .inl tx)), (t0, .inr (2, [.int (nI tf), .int u2_7, .int l2_8, .ref t1, .int (nI te), .int (nI 6), .int (nI fr), .int (nI be)]))] H locs := V
                show W p l e _ s m args below meth c H locs _ _ _ (F0 m 169 ls [])
                have V := V.sub (ws' := [(t0, .inr (2, [.int (nI tf), .int u2_7, .int l2_8, .ref t1, .int (nI te), .int (nI 6), .int (nI fr), .int (nI be)])), (t1, .inl (T 3, 900, .inl tx))]) [1, 0] rfl rfl
                exact g_vret (Qr := (q_rd_next T t0 tf tu tl t1 te tk tr tb tx)) hC V ⟨(Nat.le_of_ble_eq_true rfl), (Nat.le_of_ble_eq_true rfl)⟩ ⟨u2_7, l2_8, (nI 6), fr, be, rfl, rfl, (fun h => absurd h (by assumption)), (by omega)⟩ dX2_nextToken_169
              · skip
                refine lv_aload_n hx hb dX2_nextToken_137 rfl (lv_at hl 0 rfl) ?_
                refine g_get hC V (ci := 2) uwX2 0 rfl rfl 5 (by decide) w_136 rfl rfl dX2_nextToken_138 ?_
                refine lv_iconst (v := (nI 2)) hx hb dX2_nextToken_141 (by decide +kernel) ?_
                refine lv_icmp_ne (tgt := 169) hx hb dX2_nextToken_142 (by decide) (fun c_10 => ?_) (fun c_10 => ?_)
                · skip
                  exact g_vret (Qr := (q_rd_next T t0 tf tu tl t1 te tk tr tb tx)) hC V ⟨(Nat.le_of_ble_eq_true rfl), (Nat.le_of_ble_eq_true rfl)⟩ ⟨tu, tl, z_3, fr, be, rfl, rfl, id, (by omega)⟩ dX2_nextToken_169
                · skip
                  refine lv_aload_n hx hb dX2_nextToken_145 rfl (lv_at hl 0 rfl) ?_
                  refine g_get hC V (ci := 2) uwX2 0 rfl rfl 7 (by decide) w_138 rfl rfl dX2_nextToken_146 ?_
                  refine lv_aload_n hx hb dX2_nextToken_149 rfl (lv_at hl 0 rfl) ?_
                  refine g_get hC V (ci := 2) uwX2 0 rfl rfl 6 (by decide) w_137 rfl rfl dX2_nextToken_150 ?_
                  refine lv_isub hx hb dX2_nextToken_153 ?_
                  refine lv_iconst (v := (nI 3)) hx hb dX2_nextToken_154 (by decide +kernel) ?_
                  refine lv_icmp_le (tgt := 169) hx hb dX2_nextToken_155 (by decide) (fun c_11 => ?_) (fun c_11 => ?_)
                  · skip
                    exact g_vret (Qr := (q_rd_next T t0 tf tu tl t1 te tk tr tb tx)) hC V ⟨(Nat.le_of_ble_eq_true rfl), (Nat.le_of_ble_eq_true rfl)⟩ ⟨tu, tl, z_3, fr, be, rfl, rfl, id, (by omega)⟩ dX2_nextToken_169
                  · skip
                    refine lv_aload_n hx hb dX2_nextToken_158 rfl (lv_at hl 0 rfl) ?_
                    refine lv_bipush (v := (nI 6)) hx hb dX2_nextToken_159 (by decide +kernel) ?_
                    refine g_put hC V (ci := 2) uwX2 tyX2 tyX2_ok nmX2 0 rfl rfl 5 (by decide) w_136 rfl rfl rfl rfl (Nat.le_of_ble_eq_true rfl) (ws' := [(t0, .inr (2, [.int (nI tf), .int tu, .int tl, .ref t1, .int (nI te), .int (nI 6), .int (nI fr), .int (nI be)])), (t1, .inl (T 3, 900, .inl tx))]) rfl dX2_nextToken_161 (fun H locs V => ?_)
                    refine lv_aload_n hx hb dX2_nextToken_164 rfl (lv_at hl 0 rfl) ?_
                    refine lv_iconst (v := (nI 1)) hx hb dX2_nextToken_165 (by decide +kernel) ?_
                    refine g_callV (wr := [(t1, .inl (T 3, 900, .inl tx))]) (nA := 1) hC V hl.1 (rd_fail l D T t0 (nI 1) tf tu tl t1 te (nI 6) fr be (by decide +kernel)) w_317 w_319 w_s2 w_4 w_320 (by decide +kernel) rfl ⟨(Nat.le_of_ble_eq_true rfl), (Nat.le_of_ble_eq_true rfl)⟩ 0 (ci := 2) rfl rfl [0] [1] rfl rfl rfl rfl (by decide) (Nat.le_of_ble_eq_true rfl) dX2_nextToken_166 ⟨(Nat.le_of_ble_eq_true rfl), (Nat.le_of_ble_eq_true rfl)⟩ rfl (fun r w1 H locs hQ V => ?_)
                    obtain ⟨u2_12, l2_13, rfl, rfl, f_14⟩ := hQ
                    have V : gW D T A s [(t1, .inl (T 3, 900, .inl tx)), (t0, .inr (2, [.int (nI tf), .int u2_12, .int l2_13, .ref t1, .int (nI te), .int (nI 6), .int (nI fr), .int (nI be)]))] H locs := V
                    show W p l e _ s m args below meth c H locs _ _ _ (F0 m 169 ls [])
                    have V := V.sub (ws' := [(t0, .inr (2, [.int (nI tf), .int u2_12, .int l2_13, .ref t1, .int (nI te), .int (nI 6), .int (nI fr), .int (nI be)])), (t1, .inl (T 3, 900, .inl tx))]) [1, 0] rfl rfl
                    exact g_vret (Qr := (q_rd_next T t0 tf tu tl t1 te tk tr tb tx)) hC V ⟨(Nat.le_of_ble_eq_true rfl), (Nat.le_of_ble_eq_true rfl)⟩ ⟨u2_12, l2_13, (nI 6), fr, be, rfl, rfl, (fun h => absurd h (by assumption)), (by omega)⟩ dX2_nextToken_169
            · skip
              have c_5 := b_nle (by omega) (by omega) c_5
              refine lv_aload_n hx hb dX2_nextToken_84 rfl (lv_at hl 0 rfl) ?_
              refine g_get hC V (ci := 2) uwX2 0 rfl rfl 5 (by decide) w_136 rfl rfl dX2_nextToken_85 ?_
              refine lv_iconst (v := (nI 1)) hx hb dX2_nextToken_88 (by decide +kernel) ?_
              refine lv_icmp_eq (tgt := 100) hx hb dX2_nextToken_89 (by decide) (fun c_15 => ?_) (fun c_15 => ?_)
              · skip
                refine lv_aload_n hx hb dX2_nextToken_100 rfl (lv_at hl 0 rfl) ?_
                refine lv_aload_n hx hb dX2_nextToken_101 rfl (lv_at hl 0 rfl) ?_
                refine g_get hC V (ci := 2) uwX2 0 rfl rfl 7 (by decide) w_138 rfl rfl dX2_nextToken_102 ?_
                refine g_callV (wr := []) (nA := 1) hC V hl.1 (rd_kindAt l D T t0 be tf tu tl t1 te z_3 fr be tx (by first | assumption | omega) (by first | assumption | omega)) w_313 w_315 w_s1 w_4 w_316 (by decide +kernel) rfl ⟨(Nat.le_of_ble_eq_true rfl), (Nat.le_of_ble_eq_true rfl)⟩ 0 (ci := 2) rfl rfl [0, 1] [] rfl rfl rfl rfl (by decide) (Nat.le_of_ble_eq_true rfl) dX2_nextToken_105 ⟨(Nat.le_of_ble_eq_true rfl), (Nat.le_of_ble_eq_true rfl)⟩ rfl (fun r w1 H locs hQ V => ?_)
                obtain ⟨z_16, rfl, rfl⟩ := hQ
                have V : gW D T A s [(t0, .inr (2, [.int (nI tf), .int tu, .int tl, .ref t1, .int (nI te), .int z_3, .int (nI fr), .int (nI be)])), (t1, .inl (T 3, 900, .inl tx))] H locs := V
                show W p l e _ s m args below meth c H locs _ _ _ (F0 m 108 ls [.int z_16])
                refine lv_aload_n hx hb dX2_nextToken_108 rfl (lv_at hl 0 rfl) ?_
                refine g_get hC V (ci := 2) uwX2 0 rfl rfl 5 (by decide) w_136 rfl rfl dX2_nextToken_109 ?_
                refine lv_icmp_ne (tgt := 128) hx hb dX2_nextToken_112 (by decide) (fun c_17 => ?_) (fun c_17 => ?_)
                · skip
                  refine lv_aload_n hx hb dX2_nextToken_128 rfl (lv_at hl 0 rfl) ?_
                  refine g_get hC V (ci := 2) uwX2 0 rfl rfl 5 (by decide) w_136 rfl rfl dX2_nextToken_129 ?_
                  refine lv_bipush (v := (nI 6)) hx hb dX2_nextToken_132 (by decide +kernel) ?_
                  refine lv_icmp_eq (tgt := 158) hx hb dX2_nextToken_134 (by decide) (fun c_18 => ?_) (fun c_18 => ?_)
                  · skip
                    refine lv_aload_n hx hb dX2_nextToken_158 rfl (lv_at hl 0 rfl) ?_
                    refine lv_bipush (v := (nI 6)) hx hb dX2_nextToken_159 (by decide +kernel) ?_
                    refine g_put hC V (ci := 2) uwX2 tyX2 tyX2_ok nmX2 0 rfl rfl 5 (by decide) w_136 rfl rfl rfl rfl (Nat.le_of_ble_eq_true rfl) (ws' := [(t0, .inr (2, [.int (nI tf), .int tu, .int tl, .ref t1, .int (nI te), .int (nI 6), .int (nI fr), .int (nI be)])), (t1, .inl (T 3, 900, .inl tx))]) rfl dX2_nextToken_161 (fun H locs V => ?_)
                    refine lv_aload_n hx hb dX2_nextToken_164 rfl (lv_at hl 0 rfl) ?_
                    refine lv_iconst (v := (nI 1)) hx hb dX2_nextToken_165 (by decide +kernel) ?_
                    refine g_callV (wr := [(t1, .inl (T 3, 900, .inl tx))]) (nA := 1) hC V hl.1 (rd_fail l D T t0 (nI 1) tf tu tl t1 te (nI 6) fr be (by decide +kernel)) w_317 w_319 w_s2 w_4 w_320 (by decide +kernel) rfl ⟨(Nat.le_of_ble_eq_true rfl), (Nat.le_of_ble_eq_true rfl)⟩ 0 (ci := 2) rfl rfl [0] [1] rfl rfl rfl rfl (by decide) (Nat.le_of_ble_eq_true rfl) dX2_nextToken_166 ⟨(Nat.le_of_ble_eq_true rfl), (Nat.le_of_ble_eq_true rfl)⟩ rfl (fun r w1 H locs hQ V => ?_)
                    obtain ⟨u2_19, l2_20, rfl, rfl, f_21⟩ := hQ
                    have V : gW D T A s [(t1, .inl (T 3, 900, .inl tx)), (t0, .inr (2, [.int (nI tf), .int u2_19, .int l2_20, .ref t1, .int (nI te), .int (nI 6), .int (nI fr), .int (nI be)]))] H locs := V
                    show W p l e _ s m args below meth c H locs _ _ _ (F0 m 169 ls [])
                    have V := V.sub (ws' := [(t0, .inr (2, [.int (nI tf), .int u2_19, .int l2_20, .ref t1, .int (nI te), .int (nI 6), .int (nI fr), .int (nI be)])), (t1, .inl (T 3, 900, .inl tx))]) [1, 0] rfl rfl
                    exact g_vret (Qr := (q_rd_next T t0 tf tu tl t1 te tk tr tb tx)) hC V ⟨(Nat.le_of_ble_eq_true rfl), (Nat.le_of_ble_eq_true rfl)⟩ ⟨u2_19, l2_20, (nI 6), fr, be, rfl, rfl, (fun h => absurd h (by assumption)), (by omega)⟩ dX2_nextToken_169
                  · skip
                    refine lv_aload_n hx hb dX2_nextToken_137 rfl (lv_at hl 0 rfl) ?_
                    refine g_get hC V (ci := 2) uwX2 0 rfl rfl 5 (by decide) w_136 rfl rfl dX2_nextToken_138 ?_
                    refine lv_iconst (v := (nI 2)) hx hb dX2_nextToken_141 (by decide +kernel) ?_
                    refine lv_icmp_ne (tgt := 169) hx hb dX2_nextToken_142 (by decide) (fun c_22 => ?_) (fun c_22 => ?_)
                    · skip
                      exact g_vret (Qr := (q_rd_next T t0 tf tu tl t1 te tk tr tb tx)) hC V ⟨(Nat.le_of_ble_eq_true rfl), (Nat.le_of_ble_eq_true rfl)⟩ ⟨tu, tl, z_3, fr, be, rfl, rfl, id, (by omega)⟩ dX2_nextToken_169
                    · skip
                      refine lv_aload_n hx hb dX2_nextToken_145 rfl (lv_at hl 0 rfl) ?_
                      refine g_get hC V (ci := 2) uwX2 0 rfl rfl 7 (by decide) w_138 rfl rfl dX2_nextToken_146 ?_
                      refine lv_aload_n hx hb dX2_nextToken_149 rfl (lv_at hl 0 rfl) ?_
                      refine g_get hC V (ci := 2) uwX2 0 rfl rfl 6 (by decide) w_137 rfl rfl dX2_nextToken_150 ?_
                      refine lv_isub hx hb dX2_nextToken_153 ?_
                      refine lv_iconst (v := (nI 3)) hx hb dX2_nextToken_154 (by decide +kernel) ?_
                      refine lv_icmp_le (tgt := 169) hx hb dX2_nextToken_155 (by decide) (fun c_23 => ?_) (fun c_23 => ?_)
                      · skip
                        exact g_vret (Qr := (q_rd_next T t0 tf tu tl t1 te tk tr tb tx)) hC V ⟨(Nat.le_of_ble_eq_true rfl), (Nat.le_of_ble_eq_true rfl)⟩ ⟨tu, tl, z_3, fr, be, rfl, rfl, id, (by omega)⟩ dX2_nextToken_169
                      · skip
                        refine lv_aload_n hx hb dX2_nextToken_158 rfl (lv_at hl 0 rfl) ?_
                        refine lv_bipush (v := (nI 6)) hx hb dX2_nextToken_159 (by decide +kernel) ?_
                        refine g_put hC V (ci := 2) uwX2 tyX2 tyX2_ok nmX2 0 rfl rfl 5 (by decide) w_136 rfl rfl rfl rfl (Nat.le_of_ble_eq_true rfl) (ws' := [(t0, .inr (2, [.int (nI tf), .int tu, .int tl, .ref t1, .int (nI te), .int (nI 6), .int (nI fr), .int (nI be)])), (t1, .inl (T 3, 900, .inl tx))]) rfl dX2_nextToken_161 (fun H locs V => ?_)
                        refine lv_aload_n hx hb dX2_nextToken_164 rfl (lv_at hl 0 rfl) ?_
                        refine lv_iconst (v := (nI 1)) hx hb dX2_nextToken_165 (by decide +kernel) ?_
                        refine g_callV (wr := [(t1, .inl (T 3, 900, .inl tx))]) (nA := 1) hC V hl.1 (rd_fail l D T t0 (nI 1) tf tu tl t1 te (nI 6) fr be (by decide +kernel)) w_317 w_319 w_s2 w_4 w_320 (by decide +kernel) rfl ⟨(Nat.le_of_ble_eq_true rfl), (Nat.le_of_ble_eq_true rfl)⟩ 0 (ci := 2) rfl rfl [0] [1] rfl rfl rfl rfl (by decide) (Nat.le_of_ble_eq_true rfl) dX2_nextToken_166 ⟨(Nat.le_of_ble_eq_true rfl), (Nat.le_of_ble_eq_true rfl)⟩ rfl (fun r w1 H locs hQ V => ?_)
                        obtain ⟨u2_24, l2_25, rfl, rfl, f_26⟩ := hQ
                        have V : gW D T A s [(t1, .inl (T 3, 900, .inl tx)), (t0, .inr (2, [.int (nI tf), .int u2_24, .int l2_25, .ref t1, .int (nI te), .int (nI 6), .int (nI fr), .int (nI be)]))] H locs := V
                        show W p l e _ s m args below meth c H locs _ _ _ (F0 m 169 ls [])
                        have V := V.sub (ws' := [(t0, .inr (2, [.int (nI tf), .int u2_24, .int l2_25, .ref t1, .int (nI te), .int (nI 6), .int (nI fr), .int (nI be)])), (t1, .inl (T 3, 900, .inl tx))]) [1, 0] rfl rfl
                        exact g_vret (Qr := (q_rd_next T t0 tf tu tl t1 te tk tr tb tx)) hC V ⟨(Nat.le_of_ble_eq_true rfl), (Nat.le_of_ble_eq_true rfl)⟩ ⟨u2_24, l2_25, (nI 6), fr, be, rfl, rfl, (fun h => absurd h (by assumption)), (by omega)⟩ dX2_nextToken_169
                · skip
                  refine lv_aload_n hx hb dX2_nextToken_115 rfl (lv_at hl 0 rfl) ?_
                  refine lv_dup hx hb dX2_nextToken_116 rfl ?_
                  refine g_get hC V (ci := 2) uwX2 0 rfl rfl 7 (by decide) w_138 rfl rfl dX2_nextToken_117 ?_
                  refine lv_iconst (v := (nI 1)) hx hb dX2_nextToken_120 (by decide +kernel) ?_
                  refine lv_iadd hx hb dX2_nextToken_121 ?_
                  refine g_vi (y := (nI (be + 1))) (nI_add _ _) ?_
                  refine g_put hC V (ci := 2) uwX2 tyX2 tyX2_ok nmX2 0 rfl rfl 7 (by decide) w_138 rfl rfl rfl rfl (Nat.le_of_ble_eq_true rfl) (ws' := [(t0, .inr (2, [.int (nI tf), .int tu, .int tl, .ref t1, .int (nI te), .int z_3, .int (nI fr), .int (nI (be + 1))])), (t1, .inl (T 3, 900, .inl tx))]) rfl dX2_nextToken_122 (fun H locs V => ?_)
                  refine lv_goto (tgt := 73) hx hb dX2_nextToken_125 (by decide) ?_
                  exact ih_73 (be + 1) (by omega) (by omega) _ _ _ V (lv_sub hl [0] rfl)
              · skip
                refine lv_aload_n hx hb dX2_nextToken_92 rfl (lv_at hl 0 rfl) ?_
                refine g_get hC V (ci := 2) uwX2 0 rfl rfl 5 (by decide) w_136 rfl rfl dX2_nextToken_93 ?_
                refine lv_iconst (v := (nI 2)) hx hb dX2_nextToken_96 (by decide +kernel) ?_
                refine lv_icmp_ne (tgt := 128) hx hb dX2_nextToken_97 (by decide) (fun c_27 => ?_) (fun c_27 => ?_)
                · skip
                  refine lv_aload_n hx hb dX2_nextToken_128 rfl (lv_at hl 0 rfl) ?_
                  refine g_get hC V (ci := 2) uwX2 0 rfl rfl 5 (by decide) w_136 rfl rfl dX2_nextToken_129 ?_
                  refine lv_bipush (v := (nI 6)) hx hb dX2_nextToken_132 (by decide +kernel) ?_
                  refine lv_icmp_eq (tgt := 158) hx hb dX2_nextToken_134 (by decide) (fun c_28 => ?_) (fun c_28 => ?_)
                  · skip
                    refine lv_aload_n hx hb dX2_nextToken_158 rfl (lv_at hl 0 rfl) ?_
                    refine lv_bipush (v := (nI 6)) hx hb dX2_nextToken_159 (by decide +kernel) ?_
                    refine g_put hC V (ci := 2) uwX2 tyX2 tyX2_ok nmX2 0 rfl rfl 5 (by decide) w_136 rfl rfl rfl rfl (Nat.le_of_ble_eq_true rfl) (ws' := [(t0, .inr (2, [.int (nI tf), .int tu, .int tl, .ref t1, .int (nI te), .int (nI 6), .int (nI fr), .int (nI be)])), (t1, .inl (T 3, 900, .inl tx))]) rfl dX2_nextToken_161 (fun H locs V => ?_)
                    refine lv_aload_n hx hb dX2_nextToken_164 rfl (lv_at hl 0 rfl) ?_
                    refine lv_iconst (v := (nI 1)) hx hb dX2_nextToken_165 (by decide +kernel) ?_
                    refine g_callV (wr := [(t1, .inl (T 3, 900, .inl tx))]) (nA := 1) hC V hl.1 (rd_fail l D T t0 (nI 1) tf tu tl t1 te (nI 6) fr be (by decide +kernel)) w_317 w_319 w_s2 w_4 w_320 (by decide +kernel) rfl ⟨(Nat.le_of_ble_eq_true rfl), (Nat.le_of_ble_eq_true rfl)⟩ 0 (ci := 2) rfl rfl [0] [1] rfl rfl rfl rfl (by decide) (Nat.le_of_ble_eq_true rfl) dX2_nextToken_166 ⟨(Nat.le_of_ble_eq_true rfl), (Nat.le_of_ble_eq_true rfl)⟩ rfl (fun r w1 H locs hQ V => ?_)
                    obtain ⟨u2_29, l2_30, rfl, rfl, f_31⟩ := hQ
                    have V : gW D T A s [(t1, .inl (T 3, 900, .inl tx)), (t0, .inr (2, [.int (nI tf), .int u2_29, .int l2_30, .ref t1, .int (nI te), .int (nI 6), .int (nI fr), .int (nI be)]))] H locs := V
                    show W p l e _ s m args below meth c H locs _ _ _ (F0 m 169 ls [])
                    have V := V.sub (ws' := [(t0, .inr (2, [.int (nI tf), .int u2_29, .int l2_30, .ref t1, .int (nI te), .int (nI 6), .int (nI fr), .int (nI be)])), (t1, .inl (T 3, 900, .inl tx))]) [1, 0] rfl rfl
                    exact g_vret (Qr := (q_rd_next T t0 tf tu tl t1 te tk tr tb tx)) hC V ⟨(Nat.le_of_ble_eq_true rfl), (Nat.le_of_ble_eq_true rfl)⟩ ⟨u2_29, l2_30, (nI 6), fr, be, rfl, rfl, (fun h => absurd h (by assumption)), (by omega)⟩ dX2_nextToken_169
                  · skip
                    refine lv_aload_n hx hb dX2_nextToken_137 rfl (lv_at hl 0 rfl) ?_
                    refine g_get hC V (ci := 2) uwX2 0 rfl rfl 5 (by decide) w_136 rfl rfl dX2_nextToken_138 ?_
                    refine lv_iconst (v := (nI 2)) hx hb dX2_nextToken_141 (by decide +kernel) ?_
                    refine lv_icmp_ne (tgt := 169) hx hb dX2_nextToken_142 (by decide) (fun c_32 => ?_) (fun c_32 => ?_)
                    · skip
                      exact g_vret (Qr := (q_rd_next T t0 tf tu tl t1 te tk tr tb tx)) hC V ⟨(Nat.le_of_ble_eq_true rfl), (Nat.le_of_ble_eq_true rfl)⟩ ⟨tu, tl, z_3, fr, be, rfl, rfl, id, (by omega)⟩ dX2_nextToken_169
                    · skip
                      refine lv_aload_n hx hb dX2_nextToken_145 rfl (lv_at hl 0 rfl) ?_
                      refine g_get hC V (ci := 2) uwX2 0 rfl rfl 7 (by decide) w_138 rfl rfl dX2_nextToken_146 ?_
                      refine lv_aload_n hx hb dX2_nextToken_149 rfl (lv_at hl 0 rfl) ?_
                      refine g_get hC V (ci := 2) uwX2 0 rfl rfl 6 (by decide) w_137 rfl rfl dX2_nextToken_150 ?_
                      refine lv_isub hx hb dX2_nextToken_153 ?_
                      refine lv_iconst (v := (nI 3)) hx hb dX2_nextToken_154 (by decide +kernel) ?_
                      refine lv_icmp_le (tgt := 169) hx hb dX2_nextToken_155 (by decide) (fun c_33 => ?_) (fun c_33 => ?_)
                      · skip
                        exact g_vret (Qr := (q_rd_next T t0 tf tu tl t1 te tk tr tb tx)) hC V ⟨(Nat.le_of_ble_eq_true rfl), (Nat.le_of_ble_eq_true rfl)⟩ ⟨tu, tl, z_3, fr, be, rfl, rfl, id, (by omega)⟩ dX2_nextToken_169
                      · skip
                        refine lv_aload_n hx hb dX2_nextToken_158 rfl (lv_at hl 0 rfl) ?_
                        refine lv_bipush (v := (nI 6)) hx hb dX2_nextToken_159 (by decide +kernel) ?_
                        refine g_put hC V (ci := 2) uwX2 tyX2 tyX2_ok nmX2 0 rfl rfl 5 (by decide) w_136 rfl rfl rfl rfl (Nat.le_of_ble_eq_true rfl) (ws' := [(t0, .inr (2, [.int (nI tf), .int tu, .int tl, .ref t1, .int (nI te), .int (nI 6), .int (nI fr), .int (nI be)])), (t1, .inl (T 3, 900, .inl tx))]) rfl dX2_nextToken_161 (fun H locs V => ?_)
                        refine lv_aload_n hx hb dX2_nextToken_164 rfl (lv_at hl 0 rfl) ?_
                        refine lv_iconst (v := (nI 1)) hx hb dX2_nextToken_165 (by decide +kernel) ?_
                        refine g_callV (wr := [(t1, .inl (T 3, 900, .inl tx))]) (nA := 1) hC V hl.1 (rd_fail l D T t0 (nI 1) tf tu tl t1 te (nI 6) fr be (by decide +kernel)) w_317 w_319 w_s2 w_4 w_320 (by decide +kernel) rfl ⟨(Nat.le_of_ble_eq_true rfl), (Nat.le_of_ble_eq_true rfl)⟩ 0 (ci := 2) rfl rfl [0] [1] rfl rfl rfl rfl (by decide) (Nat.le_of_ble_eq_true rfl) dX2_nextToken_166 ⟨(Nat.le_of_ble_eq_true rfl), (Nat.le_of_ble_eq_true rfl)⟩ rfl (fun r w1 H locs hQ V => ?_)
                        obtain ⟨u2_34, l2_35, rfl, rfl, f_36⟩ := hQ
                        have V : gW D T A s [(t1, .inl (T 3, 900, .inl tx)), (t0, .inr (2, [.int (nI tf), .int u2_34, .int l2_35, .ref t1, .int (nI te), .int (nI 6), .int (nI fr), .int (nI be)]))] H locs := V
                        show W p l e _ s m args below meth c H locs _ _ _ (F0 m 169 ls [])
                        have V := V.sub (ws' := [(t0, .inr (2, [.int (nI tf), .int u2_34, .int l2_35, .ref t1, .int (nI te), .int (nI 6), .int (nI fr), .int (nI be)])), (t1, .inl (T 3, 900, .inl tx))]) [1, 0] rfl rfl
                        exact g_vret (Qr := (q_rd_next T t0 tf tu tl t1 te tk tr tb tx)) hC V ⟨(Nat.le_of_ble_eq_true rfl), (Nat.le_of_ble_eq_true rfl)⟩ ⟨u2_34, l2_35, (nI 6), fr, be, rfl, rfl, (fun h => absurd h (by assumption)), (by omega)⟩ dX2_nextToken_169
                · skip
                  refine lv_aload_n hx hb dX2_nextToken_100 rfl (lv_at hl 0 rfl) ?_
                  refine lv_aload_n hx hb dX2_nextToken_101 rfl (lv_at hl 0 rfl) ?_
                  refine g_get hC V (ci := 2) uwX2 0 rfl rfl 7 (by decide) w_138 rfl rfl dX2_nextToken_102 ?_
                  refine g_callV (wr := []) (nA := 1) hC V hl.1 (rd_kindAt l D T t0 be tf tu tl t1 te z_3 fr be tx (by first | assumption | omega) (by first | assumption | omega)) w_313 w_315 w_s1 w_4 w_316 (by decide +kernel) rfl ⟨(Nat.le_of_ble_eq_true rfl), (Nat.le_of_ble_eq_true rfl)⟩ 0 (ci := 2) rfl rfl [0, 1] [] rfl rfl rfl rfl (by decide) (Nat.le_of_ble_eq_true rfl) dX2_nextToken_105 ⟨(Nat.le_of_ble_eq_true rfl), (Nat.le_of_ble_eq_true rfl)⟩ rfl (fun r w1 H locs hQ V => ?_)
                  obtain ⟨z_37, rfl, rfl⟩ := hQ
                  have V : gW D T A s [(t0, .inr (2, [.int (nI tf), .int tu, .int tl, .ref t1, .int (nI te), .int z_3, .int (nI fr), .int (nI be)])), (t1, .inl (T 3, 900, .inl tx))] H locs := V
                  show W p l e _ s m args below meth c H locs _ _ _ (F0 m 108 ls [.int z_37])
                  refine lv_aload_n hx hb dX2_nextToken_108 rfl (lv_at hl 0 rfl) ?_
                  refine g_get hC V (ci := 2) uwX2 0 rfl rfl 5 (by decide) w_136 rfl rfl dX2_nextToken_109 ?_
                  refine lv_icmp_ne (tgt := 128) hx hb dX2_nextToken_112 (by decide) (fun c_38 => ?_) (fun c_38 => ?_)
                  · skip
                    refine lv_aload_n hx hb dX2_nextToken_128 rfl (lv_at hl 0 rfl) ?_
                    refine g_get hC V (ci := 2) uwX2 0 rfl rfl 5 (by decide) w_136 rfl rfl dX2_nextToken_129 ?_
                    refine lv_bipush (v := (nI 6)) hx hb dX2_nextToken_132 (by decide +kernel) ?_
                    refine lv_icmp_eq (tgt := 158) hx hb dX2_nextToken_134 (by decide) (fun c_39 => ?_) (fun c_39 => ?_)
                    · skip
                      refine lv_aload_n hx hb dX2_nextToken_158 rfl (lv_at hl 0 rfl) ?_
                      refine lv_bipush (v := (nI 6)) hx hb dX2_nextToken_159 (by decide +kernel) ?_
                      refine g_put hC V (ci := 2) uwX2 tyX2 tyX2_ok nmX2 0 rfl rfl 5 (by decide) w_136 rfl rfl rfl rfl (Nat.le_of_ble_eq_true rfl) (ws' := [(t0, .inr (2, [.int (nI tf), .int tu, .int tl, .ref t1, .int (nI te), .int (nI 6), .int (nI fr), .int (nI be)])), (t1, .inl (T 3, 900, .inl tx))]) rfl dX2_nextToken_161 (fun H locs V => ?_)
                      refine lv_aload_n hx hb dX2_nextToken_164 rfl (lv_at hl 0 rfl) ?_
                      refine lv_iconst (v := (nI 1)) hx hb dX2_nextToken_165 (by decide +kernel) ?_
                      refine g_callV (wr := [(t1, .inl (T 3, 900, .inl tx))]) (nA := 1) hC V hl.1 (rd_fail l D T t0 (nI 1) tf tu tl t1 te (nI 6) fr be (by decide +kernel)) w_317 w_319 w_s2 w_4 w_320 (by decide +kernel) rfl ⟨(Nat.le_of_ble_eq_true rfl), (Nat.le_of_ble_eq_true rfl)⟩ 0 (ci := 2) rfl rfl [0] [1] rfl rfl rfl rfl (by decide) (Nat.le_of_ble_eq_true rfl) dX2_nextToken_166 ⟨(Nat.le_of_ble_eq_true rfl), (Nat.le_of_ble_eq_true rfl)⟩ rfl (fun r w1 H locs hQ V => ?_)
                      obtain ⟨u2_40, l2_41, rfl, rfl, f_42⟩ := hQ
                      have V : gW D T A s [(t1, .inl (T 3, 900, .inl tx)), (t0, .inr (2, [.int (nI tf), .int u2_40, .int l2_41, .ref t1, .int (nI te), .int (nI 6), .int (nI fr), .int (nI be)]))] H locs := V
                      show W p l e _ s m args below meth c H locs _ _ _ (F0 m 169 ls [])
                      have V := V.sub (ws' := [(t0, .inr (2, [.int (nI tf), .int u2_40, .int l2_41, .ref t1, .int (nI te), .int (nI 6), .int (nI fr), .int (nI be)])), (t1, .inl (T 3, 900, .inl tx))]) [1, 0] rfl rfl
                      exact g_vret (Qr := (q_rd_next T t0 tf tu tl t1 te tk tr tb tx)) hC V ⟨(Nat.le_of_ble_eq_true rfl), (Nat.le_of_ble_eq_true rfl)⟩ ⟨u2_40, l2_41, (nI 6), fr, be, rfl, rfl, (fun h => absurd h (by assumption)), (by omega)⟩ dX2_nextToken_169
                    · skip
                      refine lv_aload_n hx hb dX2_nextToken_137 rfl (lv_at hl 0 rfl) ?_
                      refine g_get hC V (ci := 2) uwX2 0 rfl rfl 5 (by decide) w_136 rfl rfl dX2_nextToken_138 ?_
                      refine lv_iconst (v := (nI 2)) hx hb dX2_nextToken_141 (by decide +kernel) ?_
                      refine lv_icmp_ne (tgt := 169) hx hb dX2_nextToken_142 (by decide) (fun c_43 => ?_) (fun c_43 => ?_)
                      · skip
                        exact g_vret (Qr := (q_rd_next T t0 tf tu tl t1 te tk tr tb tx)) hC V ⟨(Nat.le_of_ble_eq_true rfl), (Nat.le_of_ble_eq_true rfl)⟩ ⟨tu, tl, z_3, fr, be, rfl, rfl, id, (by omega)⟩ dX2_nextToken_169
                      · skip
                        refine lv_aload_n hx hb dX2_nextToken_145 rfl (lv_at hl 0 rfl) ?_
                        refine g_get hC V (ci := 2) uwX2 0 rfl rfl 7 (by decide) w_138 rfl rfl dX2_nextToken_146 ?_
                        refine lv_aload_n hx hb dX2_nextToken_149 rfl (lv_at hl 0 rfl) ?_
                        refine g_get hC V (ci := 2) uwX2 0 rfl rfl 6 (by decide) w_137 rfl rfl dX2_nextToken_150 ?_
                        refine lv_isub hx hb dX2_nextToken_153 ?_
                        refine lv_iconst (v := (nI 3)) hx hb dX2_nextToken_154 (by decide +kernel) ?_
                        refine lv_icmp_le (tgt := 169) hx hb dX2_nextToken_155 (by decide) (fun c_44 => ?_) (fun c_44 => ?_)
                        · skip
                          exact g_vret (Qr := (q_rd_next T t0 tf tu tl t1 te tk tr tb tx)) hC V ⟨(Nat.le_of_ble_eq_true rfl), (Nat.le_of_ble_eq_true rfl)⟩ ⟨tu, tl, z_3, fr, be, rfl, rfl, id, (by omega)⟩ dX2_nextToken_169
                        · skip
                          refine lv_aload_n hx hb dX2_nextToken_158 rfl (lv_at hl 0 rfl) ?_
                          refine lv_bipush (v := (nI 6)) hx hb dX2_nextToken_159 (by decide +kernel) ?_
                          refine g_put hC V (ci := 2) uwX2 tyX2 tyX2_ok nmX2 0 rfl rfl 5 (by decide) w_136 rfl rfl rfl rfl (Nat.le_of_ble_eq_true rfl) (ws' := [(t0, .inr (2, [.int (nI tf), .int tu, .int tl, .ref t1, .int (nI te), .int (nI 6), .int (nI fr), .int (nI be)])), (t1, .inl (T 3, 900, .inl tx))]) rfl dX2_nextToken_161 (fun H locs V => ?_)
                          refine lv_aload_n hx hb dX2_nextToken_164 rfl (lv_at hl 0 rfl) ?_
                          refine lv_iconst (v := (nI 1)) hx hb dX2_nextToken_165 (by decide +kernel) ?_
                          refine g_callV (wr := [(t1, .inl (T 3, 900, .inl tx))]) (nA := 1) hC V hl.1 (rd_fail l D T t0 (nI 1) tf tu tl t1 te (nI 6) fr be (by decide +kernel)) w_317 w_319 w_s2 w_4 w_320 (by decide +kernel) rfl ⟨(Nat.le_of_ble_eq_true rfl), (Nat.le_of_ble_eq_true rfl)⟩ 0 (ci := 2) rfl rfl [0] [1] rfl rfl rfl rfl (by decide) (Nat.le_of_ble_eq_true rfl) dX2_nextToken_166 ⟨(Nat.le_of_ble_eq_true rfl), (Nat.le_of_ble_eq_true rfl)⟩ rfl (fun r w1 H locs hQ V => ?_)
                          obtain ⟨u2_45, l2_46, rfl, rfl, f_47⟩ := hQ
                          have V : gW D T A s [(t1, .inl (T 3, 900, .inl tx)), (t0, .inr (2, [.int (nI tf), .int u2_45, .int l2_46, .ref t1, .int (nI te), .int (nI 6), .int (nI fr), .int (nI be)]))] H locs := V
                          show W p l e _ s m args below meth c H locs _ _ _ (F0 m 169 ls [])
                          have V := V.sub (ws' := [(t0, .inr (2, [.int (nI tf), .int u2_45, .int l2_46, .ref t1, .int (nI te), .int (nI 6), .int (nI fr), .int (nI be)])), (t1, .inl (T 3, 900, .inl tx))]) [1, 0] rfl rfl
                          exact g_vret (Qr := (q_rd_next T t0 tf tu tl t1 te tk tr tb tx)) hC V ⟨(Nat.le_of_ble_eq_true rfl), (Nat.le_of_ble_eq_true rfl)⟩ ⟨u2_45, l2_46, (nI 6), fr, be, rfl, rfl, (fun h => absurd h (by assumption)), (by omega)⟩ dX2_nextToken_169
                  · skip
                    refine lv_aload_n hx hb dX2_nextToken_115 rfl (lv_at hl 0 rfl) ?_
                    refine lv_dup hx hb dX2_nextToken_116 rfl ?_
                    refine g_get hC V (ci := 2) uwX2 0 rfl rfl 7 (by decide) w_138 rfl rfl dX2_nextToken_117 ?_
                    refine lv_iconst (v := (nI 1)) hx hb dX2_nextToken_120 (by decide +kernel) ?_
                    refine lv_iadd hx hb dX2_nextToken_121 ?_
                    refine g_vi (y := (nI (be + 1))) (nI_add _ _) ?_
                    refine g_put hC V (ci := 2) uwX2 tyX2 tyX2_ok nmX2 0 rfl rfl 7 (by decide) w_138 rfl rfl rfl rfl (Nat.le_of_ble_eq_true rfl) (ws' := [(t0, .inr (2, [.int (nI tf), .int tu, .int tl, .ref t1, .int (nI te), .int z_3, .int (nI fr), .int (nI (be + 1))])), (t1, .inl (T 3, 900, .inl tx))]) rfl dX2_nextToken_122 (fun H locs V => ?_)
                    refine lv_goto (tgt := 73) hx hb dX2_nextToken_125 (by decide) ?_
                    exact ih_73 (be + 1) (by omega) (by omega) _ _ _ V (lv_sub hl [0] rfl)
        exact L_4 _ (min (fr + 1) te) (by omega) (Nat.lt_succ_self _) _ _ _ V (lv_sub hl [0] rfl)
      · skip
        have c_2 := b_nle (by omega) (by omega) c_2
        refine lv_aload_n hx hb dX2_nextToken_19 rfl (lv_at hl 0 rfl) ?_
        refine lv_aload_n hx hb dX2_nextToken_20 rfl (lv_at hl 0 rfl) ?_
        refine g_get hC V (ci := 2) uwX2 0 rfl rfl 6 (by decide) w_137 rfl rfl dX2_nextToken_21 ?_
        refine g_callV (wr := []) (nA := 1) hC V hl.1 (rd_kindAt l D T t0 fr tf tu tl t1 te tk fr tb tx (by first | assumption | omega) (by first | assumption | omega)) w_313 w_315 w_s1 w_4 w_316 (by decide +kernel) rfl ⟨(Nat.le_of_ble_eq_true rfl), (Nat.le_of_ble_eq_true rfl)⟩ 0 (ci := 2) rfl rfl [0, 1] [] rfl rfl rfl rfl (by decide) (Nat.le_of_ble_eq_true rfl) dX2_nextToken_24 ⟨(Nat.le_of_ble_eq_true rfl), (Nat.le_of_ble_eq_true rfl)⟩ rfl (fun r w1 H locs hQ V => ?_)
        obtain ⟨z_48, rfl, rfl⟩ := hQ
        have V : gW D T A s [(t0, .inr (2, [.int (nI tf), .int tu, .int tl, .ref t1, .int (nI te), .int tk, .int (nI fr), .int (nI tb)])), (t1, .inl (T 3, 900, .inl tx))] H locs := V
        show W p l e _ s m args below meth c H locs _ _ _ (F0 m 27 ls [.int z_48])
        refine lv_iconst (v := (nI 4)) hx hb dX2_nextToken_27 (by decide +kernel) ?_
        refine lv_icmp_ne (tgt := 44) hx hb dX2_nextToken_28 (by decide) (fun c_49 => ?_) (fun c_49 => ?_)
        · skip
          refine lv_aload_n hx hb dX2_nextToken_44 rfl (lv_at hl 0 rfl) ?_
          refine lv_aload_n hx hb dX2_nextToken_45 rfl (lv_at hl 0 rfl) ?_
          refine lv_aload_n hx hb dX2_nextToken_46 rfl (lv_at hl 0 rfl) ?_
          refine g_get hC V (ci := 2) uwX2 0 rfl rfl 6 (by decide) w_137 rfl rfl dX2_nextToken_47 ?_
          refine g_callV (wr := []) (nA := 1) hC V hl.1 (rd_kindAt l D T t0 fr tf tu tl t1 te tk fr tb tx (by first | assumption | omega) (by first | assumption | omega)) w_313 w_315 w_s1 w_4 w_316 (by decide +kernel) rfl ⟨(Nat.le_of_ble_eq_true rfl), (Nat.le_of_ble_eq_true rfl)⟩ 0 (ci := 2) rfl rfl [0, 1] [] rfl rfl rfl rfl (by decide) (Nat.le_of_ble_eq_true rfl) dX2_nextToken_50 ⟨(Nat.le_of_ble_eq_true rfl), (Nat.le_of_ble_eq_true rfl)⟩ rfl (fun r w1 H locs hQ V => ?_)
          obtain ⟨z_50, rfl, rfl⟩ := hQ
          have V : gW D T A s [(t0, .inr (2, [.int (nI tf), .int tu, .int tl, .ref t1, .int (nI te), .int tk, .int (nI fr), .int (nI tb)])), (t1, .inl (T 3, 900, .inl tx))] H locs := V
          show W p l e _ s m args below meth c H locs _ _ _ (F0 m 53 ls [.int z_50, .ref t0])
          refine g_put hC V (ci := 2) uwX2 tyX2 tyX2_ok nmX2 0 rfl rfl 5 (by decide) w_136 rfl rfl rfl rfl (Nat.le_of_ble_eq_true rfl) (ws' := [(t0, .inr (2, [.int (nI tf), .int tu, .int tl, .ref t1, .int (nI te), .int z_50, .int (nI fr), .int (nI tb)])), (t1, .inl (T 3, 900, .inl tx))]) rfl dX2_nextToken_53 (fun H locs V => ?_)
          refine lv_aload_n hx hb dX2_nextToken_56 rfl (lv_at hl 0 rfl) ?_
          refine lv_aload_n hx hb dX2_nextToken_57 rfl (lv_at hl 0 rfl) ?_
          refine g_get hC V (ci := 2) uwX2 0 rfl rfl 6 (by decide) w_137 rfl rfl dX2_nextToken_58 ?_
          refine lv_iconst (v := (nI 1)) hx hb dX2_nextToken_61 (by decide +kernel) ?_
          refine lv_iadd hx hb dX2_nextToken_62 ?_
          refine g_vi (y := (nI (fr + 1))) (nI_add _ _) ?_
          refine lv_aload_n hx hb dX2_nextToken_63 rfl (lv_at hl 0 rfl) ?_
          refine g_get hC V (ci := 2) uwX2 0 rfl rfl 4 (by decide) w_135 rfl rfl dX2_nextToken_64 ?_
          refine va_mmin hx hb (hml.trans hl.1.symm) hown (hts _ w_299) (hts _ w_300) (hts _ w_10) (hts _ w_301) (Nat.le_of_ble_eq_true rfl) (Nat.le_of_ble_eq_true rfl) (Nat.le_of_ble_eq_true rfl) (Nat.le_of_ble_eq_true rfl) dX2_nextToken_67 ?_
          refine g_vi (y := (nI (min (fr + 1) te))) (min_nI (by omega) (by omega)) ?_
          refine g_put hC V (ci := 2) uwX2 tyX2 tyX2_ok nmX2 0 rfl rfl 7 (by decide) w_138 rfl rfl rfl rfl (Nat.le_of_ble_eq_true rfl) (ws' := [(t0, .inr (2, [.int (nI tf), .int tu, .int tl, .ref t1, .int (nI te), .int z_50, .int (nI fr), .int (nI (min (fr + 1) te))])), (t1, .inl (T 3, 900, .inl tx))]) rfl dX2_nextToken_70 (fun H locs V => ?_)
          have L_51 : ∀ (fu : Nat) (be : Nat), (fr ≤ be ∧ be ≤ te) → te - be < fu → ∀ (H : Heap) (locs : List Loc) (ls : Array Slot), gW D T A s [(t0, .inr (2, [.int (nI tf), .int tu, .int tl, .ref t1, .int (nI te), .int z_50, .int (nI fr), .int (nI be)])), (t1, .inl (T 3, 900, .inl tx))] H locs → lv_has ls 1 [(0, .ref t0)] → W p l e (rmD 1 0 0) s m args below meth c H locs 0 0 (MQ below (gQ D A (q_rd_next T t0 tf tu tl t1 te tk tr tb tx)) args s 0 0 A) (F0 m 73 ls []) := by
            intro fu_73
            induction fu_73 with
            | zero => intro be hbe hmu; exact absurd hmu (Nat.not_lt_zero _)
            | succ fu_73 ih_73 =>
              intro be hbe hmu_73 H locs ls V hl
              refine lv_aload_n hx hb dX2_nextToken_73 rfl (lv_at hl 0 rfl) ?_
              refine g_get hC V (ci := 2) uwX2 0 rfl rfl 7 (by decide) w_138 rfl rfl dX2_nextToken_74 ?_
              refine lv_aload_n hx hb dX2_nextToken_77 rfl (lv_at hl 0 rfl) ?_
              refine g_get hC V (ci := 2) uwX2 0 rfl rfl 4 (by decide) w_135 rfl rfl dX2_nextToken_78 ?_
              refine lv_icmp_ge (tgt := 128) hx hb dX2_nextToken_81 (by decide) (fun c_52 => ?_) (fun c_52 => ?_)
              · skip
                have c_52 := b_le (by omega) (by omega) c_52
                refine lv_aload_n hx hb dX2_nextToken_128 rfl (lv_at hl 0 rfl) ?_
                refine g_get hC V (ci := 2) uwX2 0 rfl rfl 5 (by decide) w_136 rfl rfl dX2_nextToken_129 ?_
                refine lv_bipush (v := (nI 6)) hx hb dX2_nextToken_132 (by decide +kernel) ?_
                refine lv_icmp_eq (tgt := 158) hx hb dX2_nextToken_134 (by decide) (fun c_53 => ?_) (fun c_53 => ?_)
                · skip
                  refine lv_aload_n hx hb dX2_nextToken_158 rfl (lv_at hl 0 rfl) ?_
                  refine lv_bipush (v := (nI 6)) hx hb dX2_nextToken_159 (by decide +kernel) ?_
                  refine g_put hC V (ci := 2) uwX2 tyX2 tyX2_ok nmX2 0 rfl rfl 5 (by decide) w_136 rfl rfl rfl rfl (Nat.le_of_ble_eq_true rfl) (ws' := [(t0, .inr (2, [.int (nI tf), .int tu, .int tl, .ref t1, .int (nI te), .int (nI 6), .int (nI fr), .int (nI be)])), (t1, .inl (T 3, 900, .inl tx))]) rfl dX2_nextToken_161 (fun H locs V => ?_)
                  refine lv_aload_n hx hb dX2_nextToken_164 rfl (lv_at hl 0 rfl) ?_
                  refine lv_iconst (v := (nI 1)) hx hb dX2_nextToken_165 (by decide +kernel) ?_
                  refine g_callV (wr := [(t1, .inl (T 3, 900, .inl tx))]) (nA := 1) hC V hl.1 (rd_fail l D T t0 (nI 1) tf tu tl t1 te (nI 6) fr be (by decide +kernel)) w_317 w_319 w_s2 w_4 w_320 (by decide +kernel) rfl ⟨(Nat.le_of_ble_eq_true rfl), (Nat.le_of_ble_eq_true rfl)⟩ 0 (ci := 2) rfl rfl [0] [1] rfl rfl rfl rfl (by decide) (Nat.le_of_ble_eq_true rfl) dX2_nextToken_166 ⟨(Nat.le_of_ble_eq_true rfl), (Nat.le_of_ble_eq_true rfl)⟩ rfl (fun r w1 H locs hQ V => ?_)
                  obtain ⟨u2_54, l2_55, rfl, rfl, f_56⟩ := hQ
                  have V : gW D T A s [(t1, .inl (T 3, 900, .inl tx)), (t0, .inr (2, [.int (nI tf), .int u2_54, .int l2_55, .ref t1, .int (nI te), .int (nI 6), .int (nI fr), .int (nI be)]))] H locs := V
                  show W p l e _ s m args below meth c H locs _ _ _ (F0 m 169 ls [])
                  have V := V.sub (ws' := [(t0, .inr (2, [.int (nI tf), .int u2_54, .int l2_55, .ref t1, .int (nI te), .int (nI 6), .int (nI fr), .int (nI be)])), (t1, .inl (T 3, 900, .inl tx))]) [1, 0] rfl rfl
                  exact g_vret (Qr := (q_rd_next T t0 tf tu tl t1 te tk tr tb tx)) hC V ⟨(Nat.le_of_ble_eq_true rfl), (Nat.le_of_ble_eq_true rfl)⟩ ⟨u2_54, l2_55, (nI 6), fr, be, rfl, rfl, (fun h => absurd h (by assumption)), (by omega)⟩ dX2_nextToken_169
                · skip
                  refine lv_aload_n hx hb dX2_nextToken_137 rfl (lv_at hl 0 rfl) ?_
                  refine g_get hC V (ci := 2) uwX2 0 rfl rfl 5 (by decide) w_136 rfl rfl dX2_nextToken_138 ?_
                  refine lv_iconst (v := (nI 2)) hx hb dX2_nextToken_141 (by decide +kernel) ?_
                  refine lv_icmp_ne (tgt := 169) hx hb dX2_nextToken_142 (by decide) (fun c_57 => ?_) (fun c_57 => ?_)
                  · skip
                    exact g_vret (Qr := (q_rd_next T t0 tf tu tl t1 te tk tr tb tx)) hC V ⟨(Nat.le_of_ble_eq_true rfl), (Nat.le_of_ble_eq_true rfl)⟩ ⟨tu, tl, z_50, fr, be, rfl, rfl, id, (by omega)⟩ dX2_nextToken_169
                  · skip
                    refine lv_aload_n hx hb dX2_nextToken_145 rfl (lv_at hl 0 rfl) ?_
                    refine g_get hC V (ci := 2) uwX2 0 rfl rfl 7 (by decide) w_138 rfl rfl dX2_nextToken_146 ?_
                    refine lv_aload_n hx hb dX2_nextToken_149 rfl (lv_at hl 0 rfl) ?_
                    refine g_get hC V (ci := 2) uwX2 0 rfl rfl 6 (by decide) w_137 rfl rfl dX2_nextToken_150 ?_
                    refine lv_isub hx hb dX2_nextToken_153 ?_
                    refine lv_iconst (v := (nI 3)) hx hb dX2_nextToken_154 (by decide +kernel) ?_
                    refine lv_icmp_le (tgt := 169) hx hb dX2_nextToken_155 (by decide) (fun c_58 => ?_) (fun c_58 => ?_)
                    · skip
                      exact g_vret (Qr := (q_rd_next T t0 tf tu tl t1 te tk tr tb tx)) hC V ⟨(Nat.le_of_ble_eq_true rfl), (Nat.le_of_ble_eq_true rfl)⟩ ⟨tu, tl, z_50, fr, be, rfl, rfl, id, (by omega)⟩ dX2_nextToken_169
                    · skip
                      refine lv_aload_n hx hb dX2_nextToken_158 rfl (lv_at hl 0 rfl) ?_
                      refine lv_bipush (v := (nI 6)) hx hb dX2_nextToken_159 (by decide +kernel) ?_
                      refine g_put hC V (ci := 2) uwX2 tyX2 tyX2_ok nmX2 0 rfl rfl 5 (by decide) w_136 rfl rfl rfl rfl (Nat.le_of_ble_eq_true rfl) (ws' := [(t0, .inr (2, [.int (nI tf), .int tu, .int tl, .ref t1, .int (nI te), .int (nI 6), .int (nI fr), .int (nI be)])), (t1, .inl (T 3, 900, .inl tx))]) rfl dX2_nextToken_161 (fun H locs V => ?_)
                      refine lv_aload_n hx hb dX2_nextToken_164 rfl (lv_at hl 0 rfl) ?_
                      refine lv_iconst (v := (nI 1)) hx hb dX2_nextToken_165 (by decide +kernel) ?_
                      refine g_callV (wr := [(t1, .inl (T 3, 900, .inl tx))]) (nA := 1) hC V hl.1 (rd_fail l D T t0 (nI 1) tf tu tl t1 te (nI 6) fr be (by decide +kernel)) w_317 w_319 w_s2 w_4 w_320 (by decide +kernel) rfl ⟨(Nat.le_of_ble_eq_true rfl), (Nat.le_of_ble_eq_true rfl)⟩ 0 (ci := 2) rfl rfl [0] [1] rfl rfl rfl rfl (by decide) (Nat.le_of_ble_eq_true rfl) dX2_nextToken_166 ⟨(Nat.le_of_ble_eq_true rfl), (Nat.le_of_ble_eq_true rfl)⟩ rfl (fun r w1 H locs hQ V => ?_)
                      obtain ⟨u2_59, l2_60, rfl, rfl, f_61⟩ := hQ
                      have V : gW D T A s [(t1, .inl (T 3, 900, .inl tx)), (t0, .inr (2, [.int (nI tf), .int u2_59, .int l2_60, .ref t1, .int (nI te), .int (nI 6), .int (nI fr), .int (nI be)]))] H locs := V
                      show W p l e _ s m args below meth c H locs _ _ _ (F0 m 169 ls [])
                      have V := V.sub (ws' := [(t0, .inr (2, [.int (nI tf), .int u2_59, .int l2_60, .ref t1, .int (nI te), .int (nI 6), .int (nI fr), .int (nI be)])), (t1, .inl (T 3, 900, .inl tx))]) [1, 0] rfl rfl
                      exact g_vret (Qr := (q_rd_next T t0 tf tu tl t1 te tk tr tb tx)) hC V ⟨(Nat.le_of_ble_eq_true rfl), (Nat.le_of_ble_eq_true rfl)⟩ ⟨u2_59, l2_60, (nI 6), fr, be, rfl, rfl, (fun h => absurd h (by assumption)), (by omega)⟩ dX2_nextToken_169
              · skip
                have c_52 := b_nle (by omega) (by omega) c_52
                refine lv_aload_n hx hb dX2_nextToken_84 rfl (lv_at hl 0 rfl) ?_
                refine g_get hC V (ci := 2) uwX2 0 rfl rfl 5 (by decide) w_136 rfl rfl dX2_nextToken_85 ?_
                refine lv_iconst (v := (nI 1)) hx hb dX2_nextToken_88 (by decide +kernel) ?_
                refine lv_icmp_eq (tgt := 100) hx hb dX2_nextToken_89 (by decide) (fun c_62 => ?_) (fun c_62 => ?_)
                · skip
                  refine lv_aload_n hx hb dX2_nextToken_100 rfl (lv_at hl 0 rfl) ?_
                  refine lv_aload_n hx hb dX2_nextToken_101 rfl (lv_at hl 0 rfl) ?_
                  refine g_get hC V (ci := 2) uwX2 0 rfl rfl 7 (by decide) w_138 rfl rfl dX2_nextToken_102 ?_
                  refine g_callV (wr := []) (nA := 1) hC V hl.1 (rd_kindAt l D T t0 be tf tu tl t1 te z_50 fr be tx (by first | assumption | omega) (by first | assumption | omega)) w_313 w_315 w_s1 w_4 w_316 (by decide +kernel) rfl ⟨(Nat.le_of_ble_eq_true rfl), (Nat.le_of_ble_eq_true rfl)⟩ 0 (ci := 2) rfl rfl [0, 1] [] rfl rfl rfl rfl (by decide) (Nat.le_of_ble_eq_true rfl) dX2_nextToken_105 ⟨(Nat.le_of_ble_eq_true rfl), (Nat.le_of_ble_eq_true rfl)⟩ rfl (fun r w1 H locs hQ V => ?_)
                  obtain ⟨z_63, rfl, rfl⟩ := hQ
                  have V : gW D T A s [(t0, .inr (2, [.int (nI tf), .int tu, .int tl, .ref t1, .int (nI te), .int z_50, .int (nI fr), .int (nI be)])), (t1, .inl (T 3, 900, .inl tx))] H locs := V
                  show W p l e _ s m args below meth c H locs _ _ _ (F0 m 108 ls [.int z_63])
                  refine lv_aload_n hx hb dX2_nextToken_108 rfl (lv_at hl 0 rfl) ?_
                  refine g_get hC V (ci := 2) uwX2 0 rfl rfl 5 (by decide) w_136 rfl rfl dX2_nextToken_109 ?_
                  refine lv_icmp_ne (tgt := 128) hx hb dX2_nextToken_112 (by decide) (fun c_64 => ?_) (fun c_64 => ?_)
                  · skip
                    refine lv_aload_n hx hb dX2_nextToken_128 rfl (lv_at hl 0 rfl) ?_
                    refine g_get hC V (ci := 2) uwX2 0 rfl rfl 5 (by decide) w_136 rfl rfl dX2_nextToken_129 ?_
                    refine lv_bipush (v := (nI 6)) hx hb dX2_nextToken_132 (by decide +kernel) ?_
                    refine lv_icmp_eq (tgt := 158) hx hb dX2_nextToken_134 (by decide) (fun c_65 => ?_) (fun c_65 => ?_)
                    · skip
                      refine lv_aload_n hx hb dX2_nextToken_158 rfl (lv_at hl 0 rfl) ?_
                      refine lv_bipush (v := (nI 6)) hx hb dX2_nextToken_159 (by decide +kernel) ?_
                      refine g_put hC V (ci := 2) uwX2 tyX2 tyX2_ok nmX2 0 rfl rfl 5 (by decide) w_136 rfl rfl rfl rfl (Nat.le_of_ble_eq_true rfl) (ws' := [(t0, .inr (2, [.int (nI tf), .int tu, .int tl, .ref t1, .int (nI te), .int (nI 6), .int (nI fr), .int (nI be)])), (t1, .inl (T 3, 900, .inl tx))]) rfl dX2_nextToken_161 (fun H locs V => ?_)
                      refine lv_aload_n hx hb dX2_nextToken_164 rfl (lv_at hl 0 rfl) ?_
                      refine lv_iconst (v := (nI 1)) hx hb dX2_nextToken_165 (by decide +kernel) ?_
                      refine g_callV (wr := [(t1, .inl (T 3, 900, .inl tx))]) (nA := 1) hC V hl.1 (rd_fail l D T t0 (nI 1) tf tu tl t1 te (nI 6) fr be (by decide +kernel)) w_317 w_319 w_s2 w_4 w_320 (by decide +kernel) rfl ⟨(Nat.le_of_ble_eq_true rfl), (Nat.le_of_ble_eq_true rfl)⟩ 0 (ci := 2) rfl rfl [0] [1] rfl rfl rfl rfl (by decide) (Nat.le_of_ble_eq_true rfl) dX2_nextToken_166 ⟨(Nat.le_of_ble_eq_true rfl), (Nat.le_of_ble_eq_true rfl)⟩ rfl (fun r w1 H locs hQ V => ?_)
                      obtain ⟨u2_66, l2_67, rfl, rfl, f_68⟩ := hQ
                      have V : gW D T A s [(t1, .inl (T 3, 900, .inl tx)), (t0, .inr (2, [.int (nI tf), .int u2_66, .int l2_67, .ref t1, .int (nI te), .int (nI 6), .int (nI fr), .int (nI be)]))] H locs := V
                      show W p l e _ s m args below meth c H locs _ _ _ (F0 m 169 ls [])
                      have V := V.sub (ws' := [(t0, .inr (2, [.int (nI tf), .int u2_66, .int l2_67, .ref t1, .int (nI te), .int (nI 6), .int (nI fr), .int (nI be)])), (t1, .inl (T 3, 900, .inl tx))]) [1, 0] rfl rfl
                      exact g_vret (Qr := (q_rd_next T t0 tf tu tl t1 te tk tr tb tx)) hC V ⟨(Nat.le_of_ble_eq_true rfl), (Nat.le_of_ble_eq_true rfl)⟩ ⟨u2_66, l2_67, (nI 6), fr, be, rfl, rfl, (fun h => absurd h (by assumption)), (by omega)⟩ dX2_nextToken_169
                    · skip
                      refine lv_aload_n hx hb dX2_nextToken_137 rfl (lv_at hl 0 rfl) ?_
                      refine g_get hC V (ci := 2) uwX2 0 rfl rfl 5 (by decide) w_136 rfl rfl dX2_nextToken_138 ?_
                      refine lv_iconst (v := (nI 2)) hx hb dX2_nextToken_141 (by decide +kernel) ?_
                      refine lv_icmp_ne (tgt := 169) hx hb dX2_nextToken_142 (by decide) (fun c_69 => ?_) (fun c_69 => ?_)
                      · skip
                        exact g_vret (Qr := (q_rd_next T t0 tf tu tl t1 te tk tr tb tx)) hC V ⟨(Nat.le_of_ble_eq_true rfl), (Nat.le_of_ble_eq_true rfl)⟩ ⟨tu, tl, z_50, fr, be, rfl, rfl, id, (by omega)⟩ dX2_nextToken_169
                      · skip
                        refine lv_aload_n hx hb dX2_nextToken_145 rfl (lv_at hl 0 rfl) ?_
                        refine g_get hC V (ci := 2) uwX2 0 rfl rfl 7 (by decide) w_138 rfl rfl dX2_nextToken_146 ?_
                        refine lv_aload_n hx hb dX2_nextToken_149 rfl (lv_at hl 0 rfl) ?_
                        refine g_get hC V (ci := 2) uwX2 0 rfl rfl 6 (by decide) w_137 rfl rfl dX2_nextToken_150 ?_
                        refine lv_isub hx hb dX2_nextToken_153 ?_
                        refine lv_iconst (v := (nI 3)) hx hb dX2_nextToken_154 (by decide +kernel) ?_
                        refine lv_icmp_le (tgt := 169) hx hb dX2_nextToken_155 (by decide) (fun c_70 => ?_) (fun c_70 => ?_)
                        · skip
                          exact g_vret (Qr := (q_rd_next T t0 tf tu tl t1 te tk tr tb tx)) hC V ⟨(Nat.le_of_ble_eq_true rfl), (Nat.le_of_ble_eq_true rfl)⟩ ⟨tu, tl, z_50, fr, be, rfl, rfl, id, (by omega)⟩ dX2_nextToken_169
                        · skip
                          refine lv_aload_n hx hb dX2_nextToken_158 rfl (lv_at hl 0 rfl) ?_
                          refine lv_bipush (v := (nI 6)) hx hb dX2_nextToken_159 (by decide +kernel) ?_
                          refine g_put hC V (ci := 2) uwX2 tyX2 tyX2_ok nmX2 0 rfl rfl 5 (by decide) w_136 rfl rfl rfl rfl (Nat.le_of_ble_eq_true rfl) (ws' := [(t0, .inr (2, [.int (nI tf), .int tu, .int tl, .ref t1, .int (nI te), .int (nI 6), .int (nI fr), .int (nI be)])), (t1, .inl (T 3, 900, .inl tx))]) rfl dX2_nextToken_161 (fun H locs V => ?_)
                          refine lv_aload_n hx hb dX2_nextToken_164 rfl (lv_at hl 0 rfl) ?_
                          refine lv_iconst (v := (nI 1)) hx hb dX2_nextToken_165 (by decide +kernel) ?_
                          refine g_callV (wr := [(t1, .inl (T 3, 900, .inl tx))]) (nA := 1) hC V hl.1 (rd_fail l D T t0 (nI 1) tf tu tl t1 te (nI 6) fr be (by decide +kernel)) w_317 w_319 w_s2 w_4 w_320 (by decide +kernel) rfl ⟨(Nat.le_of_ble_eq_true rfl), (Nat.le_of_ble_eq_true rfl)⟩ 0 (ci := 2) rfl rfl [0] [1] rfl rfl rfl rfl (by decide) (Nat.le_of_ble_eq_true rfl) dX2_nextToken_166 ⟨(Nat.le_of_ble_eq_true rfl), (Nat.le_of_ble_eq_true rfl)⟩ rfl (fun r w1 H locs hQ V => ?_)
                          obtain ⟨u2_71, l2_72, rfl, rfl, f_73⟩ := hQ
                          have V : gW D T A s [(t1, .inl (T 3, 900, .inl tx)), (t0, .inr (2, [.int (nI tf), .int u2_71, .int l2_72, .ref t1, .int (nI te), .int (nI 6), .int (nI fr), .int (nI be)]))] H locs := V
                          show W p l e _ s m args below meth c H locs _ _ _ (F0 m 169 ls [])
                          have V := V.sub (ws' := [(t0, .inr (2, [.int (nI tf), .int u2_71, .int l2_72, .ref t1, .int (nI te), .int (nI 6), .int (nI fr), .int (nI be)])), (t1, .inl (T 3, 900, .inl tx))]) [1, 0] rfl rfl
                          exact g_vret (Qr := (q_rd_next T t0 tf tu tl t1 te tk tr tb tx)) hC V ⟨(Nat.le_of_ble_eq_true rfl), (Nat.le_of_ble_eq_true rfl)⟩ ⟨u2_71, l2_72, (nI 6), fr, be, rfl, rfl, (fun h => absurd h (by assumption)), (by omega)⟩ dX2_nextToken_169
                  · skip
                    refine lv_aload_n hx hb dX2_nextToken_115 rfl (lv_at hl 0 rfl) ?_
                    refine lv_dup hx hb dX2_nextToken_116 rfl ?_
                    refine g_get hC V (ci := 2) uwX2 0 rfl rfl 7 (by decide) w_138 rfl rfl dX2_nextToken_117 ?_
                    refine lv_iconst (v := (nI 1)) hx hb dX2_nextToken_120 (by decide +kernel) ?_
                    refine lv_iadd hx hb dX2_nextToken_121 ?_
                    refine g_vi (y := (nI (be + 1))) (nI_add _ _) ?_
                    refine g_put hC V (ci := 2) uwX2 tyX2 tyX2_ok nmX2 0 rfl rfl 7 (by decide) w_138 rfl rfl rfl rfl (Nat.le_of_ble_eq_true rfl) (ws' := [(t0, .inr (2, [.int (nI tf), .int tu, .int tl, .ref t1, .int (nI te), .int z_50, .int (nI fr), .int (nI (be + 1))])), (t1, .inl (T 3, 900, .inl tx))]) rfl dX2_nextToken_122 (fun H locs V => ?_)
                    refine lv_goto (tgt := 73) hx hb dX2_nextToken_125 (by decide) ?_
                    exact ih_73 (be + 1) (by omega) (by omega) _ _ _ V (lv_sub hl [0] rfl)
                · skip
                  refine lv_aload_n hx hb dX2_nextToken_92 rfl (lv_at hl 0 rfl) ?_
                  refine g_get hC V (ci := 2) uwX2 0 rfl rfl 5 (by decide) w_136 rfl rfl dX2_nextToken_93 ?_
                  refine lv_iconst (v := (nI 2)) hx hb dX2_nextToken_96 (by decide +kernel) ?_
                  refine lv_icmp_ne (tgt := 128) hx hb dX2_nextToken_97 (by decide) (fun c_74 => ?_) (fun c_74 => ?_)
                  · skip
                    refine lv_aload_n hx hb dX2_nextToken_128 rfl (lv_at hl 0 rfl) ?_
                    refine g_get hC V (ci := 2) uwX2 0 rfl rfl 5 (by decide) w_136 rfl rfl dX2_nextToken_129 ?_
                    refine lv_bipush (v := (nI 6)) hx hb dX2_nextToken_132 (by decide +kernel) ?_
                    refine lv_icmp_eq (tgt := 158) hx hb dX2_nextToken_134 (by decide) (fun c_75 => ?_) (fun c_75 => ?_)
                    · skip
                      refine lv_aload_n hx hb dX2_nextToken_158 rfl (lv_at hl 0 rfl) ?_
                      refine lv_bipush (v := (nI 6)) hx hb dX2_nextToken_159 (by decide +kernel) ?_
                      refine g_put hC V (ci := 2) uwX2 tyX2 tyX2_ok nmX2 0 rfl rfl 5 (by decide) w_136 rfl rfl rfl rfl (Nat.le_of_ble_eq_true rfl) (ws' := [(t0, .inr (2, [.int (nI tf), .int tu, .int tl, .ref t1, .int (nI te), .int (nI 6), .int (nI fr), .int (nI be)])), (t1, .inl (T 3, 900, .inl tx))]) rfl dX2_nextToken_161 (fun H locs V => ?_)
                      refine lv_aload_n hx hb dX2_nextToken_164 rfl (lv_at hl 0 rfl) ?_
                      refine lv_iconst (v := (nI 1)) hx hb dX2_nextToken_165 (by decide +kernel) ?_
                      refine g_callV (wr := [(t1, .inl (T 3, 900, .inl tx))]) (nA := 1) hC V hl.1 (rd_fail l D T t0 (nI 1) tf tu tl t1 te (nI 6) fr be (by decide +kernel)) w_317 w_319 w_s2 w_4 w_320 (by decide +kernel) rfl ⟨(Nat.le_of_ble_eq_true rfl), (Nat.le_of_ble_eq_true rfl)⟩ 0 (ci := 2) rfl rfl [0] [1] rfl rfl rfl rfl (by decide) (Nat.le_of_ble_eq_true rfl) dX2_nextToken_166 ⟨(Nat.le_of_ble_eq_true rfl), (Nat.le_of_ble_eq_true rfl)⟩ rfl (fun r w1 H locs hQ V => ?_)
                      obtain ⟨u2_76, l2_77, rfl, rfl, f_78⟩ := hQ
                      have V : gW D T A s [(t1, .inl (T 3, 900, .inl tx)), (t0, .inr (2, [.int (nI tf), .int u2_76, .int l2_77, .ref t1, .int (nI te), .int (nI 6), .int (nI fr), .int (nI be)]))] H locs := V
                      show W p l e _ s m args below meth c H locs _ _ _ (F0 m 169 ls [])
                      have V := V.sub (ws' := [(t0, .inr (2, [.int (nI tf), .int u2_76, .int l2_77, .ref t1, .int (nI te), .int (nI 6), .int (nI fr), .int (nI be)])), (t1, .inl (T 3, 900, .inl tx))]) [1, 0] rfl rfl
                      exact g_vret (Qr := (q_rd_next T t0 tf tu tl t1 te tk tr tb tx)) hC V ⟨(Nat.le_of_ble_eq_true rfl), (Nat.le_of_ble_eq_true rfl)⟩ ⟨u2_76, l2_77, (nI 6), fr, be, rfl, rfl, (fun h => absurd h (by assumption)), (by omega)⟩ dX2_nextToken_169
                    · skip
                      refine lv_aload_n hx hb dX2_nextToken_137 rfl (lv_at hl 0 rfl) ?_
                      refine g_get hC V (ci := 2) uwX2 0 rfl rfl 5 (by decide) w_136 rfl rfl dX2_nextToken_138 ?_
                      refine lv_iconst (v := (nI 2)) hx hb dX2_nextToken_141 (by decide +kernel) ?_
                      refine lv_icmp_ne (tgt := 169) hx hb dX2_nextToken_142 (by decide) (fun c_79 => ?_) (fun c_79 => ?_)
                      · skip
                        exact g_vret (Qr := (q_rd_next T t0 tf tu tl t1 te tk tr tb tx)) hC V ⟨(Nat.le_of_ble_eq_true rfl), (Nat.le_of_ble_eq_true rfl)⟩ ⟨tu, tl, z_50, fr, be, rfl, rfl, id, (by omega)⟩ dX2_nextToken_169
                      · skip
                        refine lv_aload_n hx hb dX2_nextToken_145 rfl (lv_at hl 0 rfl) ?_
                        refine g_get hC V (ci := 2) uwX2 0 rfl rfl 7 (by decide) w_138 rfl rfl dX2_nextToken_146 ?_
                        refine lv_aload_n hx hb dX2_nextToken_149 rfl (lv_at hl 0 rfl) ?_
                        refine g_get hC V (ci := 2) uwX2 0 rfl rfl 6 (by decide) w_137 rfl rfl dX2_nextToken_150 ?_
                        refine lv_isub hx hb dX2_nextToken_153 ?_
                        refine lv_iconst (v := (nI 3)) hx hb dX2_nextToken_154 (by decide +kernel) ?_
                        refine lv_icmp_le (tgt := 169) hx hb dX2_nextToken_155 (by decide) (fun c_80 => ?_) (fun c_80 => ?_)
                        · skip
                          exact g_vret (Qr := (q_rd_next T t0 tf tu tl t1 te tk tr tb tx)) hC V ⟨(Nat.le_of_ble_eq_true rfl), (Nat.le_of_ble_eq_true rfl)⟩ ⟨tu, tl, z_50, fr, be, rfl, rfl, id, (by omega)⟩ dX2_nextToken_169
                        · skip
                          refine lv_aload_n hx hb dX2_nextToken_158 rfl (lv_at hl 0 rfl) ?_
                          refine lv_bipush (v := (nI 6)) hx hb dX2_nextToken_159 (by decide +kernel) ?_
                          refine g_put hC V (ci := 2) uwX2 tyX2 tyX2_ok nmX2 0 rfl rfl 5 (by decide) w_136 rfl rfl rfl rfl (Nat.le_of_ble_eq_true rfl) (ws' := [(t0, .inr (2, [.int (nI tf), .int tu, .int tl, .ref t1, .int (nI te), .int (nI 6), .int (nI fr), .int (nI be)])), (t1, .inl (T 3, 900, .inl tx))]) rfl dX2_nextToken_161 (fun H locs V => ?_)
                          refine lv_aload_n hx hb dX2_nextToken_164 rfl (lv_at hl 0 rfl) ?_
                          refine lv_iconst (v := (nI 1)) hx hb dX2_nextToken_165 (by decide +kernel) ?_
                          refine g_callV (wr := [(t1, .inl (T 3, 900, .inl tx))]) (nA := 1) hC V hl.1 (rd_fail l D T t0 (nI 1) tf tu tl t1 te (nI 6) fr be (by decide +kernel)) w_317 w_319 w_s2 w_4 w_320 (by decide +kernel) rfl ⟨(Nat.le_of_ble_eq_true rfl), (Nat.le_of_ble_eq_true rfl)⟩ 0 (ci := 2) rfl rfl [0] [1] rfl rfl rfl rfl (by decide) (Nat.le_of_ble_eq_true rfl) dX2_nextToken_166 ⟨(Nat.le_of_ble_eq_true rfl), (Nat.le_of_ble_eq_true rfl)⟩ rfl (fun r w1 H locs hQ V => ?_)
                          obtain ⟨u2_81, l2_82, rfl, rfl, f_83⟩ := hQ
                          have V : gW D T A s [(t1, .inl (T 3, 900, .inl tx)), (t0, .inr (2, [.int (nI tf), .int u2_81, .int l2_82, .ref t1, .int (nI te), .int (nI 6), .int (nI fr), .int (nI be)]))] H locs := V
                          show W p l e _ s m args below meth c H locs _ _ _ (F0 m 169 ls [])
                          have V := V.sub (ws' := [(t0, .inr (2, [.int (nI tf), .int u2_81, .int l2_82, .ref t1, .int (nI te), .int (nI 6), .int (nI fr), .int (nI be)])), (t1, .inl (T 3, 900, .inl tx))]) [1, 0] rfl rfl
                          exact g_vret (Qr := (q_rd_next T t0 tf tu tl t1 te tk tr tb tx)) hC V ⟨(Nat.le_of_ble_eq_true rfl), (Nat.le_of_ble_eq_true rfl)⟩ ⟨u2_81, l2_82, (nI 6), fr, be, rfl, rfl, (fun h => absurd h (by assumption)), (by omega)⟩ dX2_nextToken_169
                  · skip
                    refine lv_aload_n hx hb dX2_nextToken_100 rfl (lv_at hl 0 rfl) ?_
                    refine lv_aload_n hx hb dX2_nextToken_101 rfl (lv_at hl 0 rfl) ?_
                    refine g_get hC V (ci := 2) uwX2 0 rfl rfl 7 (by decide) w_138 rfl rfl dX2_nextToken_102 ?_
                    refine g_callV (wr := []) (nA := 1) hC V hl.1 (rd_kindAt l D T t0 be tf tu tl t1 te z_50 fr be tx (by first | assumption | omega) (by first | assumption | omega)) w_313 w_315 w_s1 w_4 w_316 (by decide +kernel) rfl ⟨(Nat.le_of_ble_eq_true rfl), (Nat.le_of_ble_eq_true rfl)⟩ 0 (ci := 2) rfl rfl [0, 1] [] rfl rfl rfl rfl (by decide) (Nat.le_of_ble_eq_true rfl) dX2_nextToken_105 ⟨(Nat.le_of_ble_eq_true rfl), (Nat.le_of_ble_eq_true rfl)⟩ rfl (fun r w1 H locs hQ V => ?_)
                    obtain ⟨z_84, rfl, rfl⟩ := hQ
                    have V : gW D T A s [(t0, .inr (2, [.int (nI tf), .int tu, .int tl, .ref t1, .int (nI te), .int z_50, .int (nI fr), .int (nI be)])), (t1, .inl (T 3, 900, .inl tx))] H locs := V
                    show W p l e _ s m args below meth c H locs _ _ _ (F0 m 108 ls [.int z_84])
                    refine lv_aload_n hx hb dX2_nextToken_108 rfl (lv_at hl 0 rfl) ?_
                    refine g_get hC V (ci := 2) uwX2 0 rfl rfl 5 (by decide) w_136 rfl rfl dX2_nextToken_109 ?_
                    refine lv_icmp_ne (tgt := 128) hx hb dX2_nextToken_112 (by decide) (fun c_85 => ?_) (fun c_85 => ?_)
                    · skip
                      refine lv_aload_n hx hb dX2_nextToken_128 rfl (lv_at hl 0 rfl) ?_
                      refine g_get hC V (ci := 2) uwX2 0 rfl rfl 5 (by decide) w_136 rfl rfl dX2_nextToken_129 ?_
                      refine lv_bipush (v := (nI 6)) hx hb dX2_nextToken_132 (by decide +kernel) ?_
                      refine lv_icmp_eq (tgt := 158) hx hb dX2_nextToken_134 (by decide) (fun c_86 => ?_) (fun c_86 => ?_)
                      · skip
                        refine lv_aload_n hx hb dX2_nextToken_158 rfl (lv_at hl 0 rfl) ?_
                        refine lv_bipush (v := (nI 6)) hx hb dX2_nextToken_159 (by decide +kernel) ?_
                        refine g_put hC V (ci := 2) uwX2 tyX2 tyX2_ok nmX2 0 rfl rfl 5 (by decide) w_136 rfl rfl rfl rfl (Nat.le_of_ble_eq_true rfl) (ws' := [(t0, .inr (2, [.int (nI tf), .int tu, .int tl, .ref t1, .int (nI te), .int (nI 6), .int (nI fr), .int (nI be)])), (t1, .inl (T 3, 900, .inl tx))]) rfl dX2_nextToken_161 (fun H locs V => ?_)
                        refine lv_aload_n hx hb dX2_nextToken_164 rfl (lv_at hl 0 rfl) ?_
                        refine lv_iconst (v := (nI 1)) hx hb dX2_nextToken_165 (by decide +kernel) ?_
                        refine g_callV (wr := [(t1, .inl (T 3, 900, .inl tx))]) (nA := 1) hC V hl.1 (rd_fail l D T t0 (nI 1) tf tu tl t1 te (nI 6) fr be (by decide +kernel)) w_317 w_319 w_s2 w_4 w_320 (by decide +kernel) rfl ⟨(Nat.le_of_ble_eq_true rfl), (Nat.le_of_ble_eq_true rfl)⟩ 0 (ci := 2) rfl rfl [0] [1] rfl rfl rfl rfl (by decide) (Nat.le_of_ble_eq_true rfl) dX2_nextToken_166 ⟨(Nat.le_of_ble_eq_true rfl), (Nat.le_of_ble_eq_true rfl)⟩ rfl (fun r w1 H locs hQ V => ?_)
                        obtain ⟨u2_87, l2_88, rfl, rfl, f_89⟩ := hQ
                        have V : gW D T A s [(t1, .inl (T 3, 900, .inl tx)), (t0, .inr (2, [.int (nI tf), .int u2_87, .int l2_88, .ref t1, .int (nI te), .int (nI 6), .int (nI fr), .int (nI be)]))] H locs := V
                        show W p l e _ s m args below meth c H locs _ _ _ (F0 m 169 ls [])
                        have V := V.sub (ws' := [(t0, .inr (2, [.int (nI tf), .int u2_87, .int l2_88, .ref t1, .int (nI te), .int (nI 6), .int (nI fr), .int (nI be)])), (t1, .inl (T 3, 900, .inl tx))]) [1, 0] rfl rfl
                        exact g_vret (Qr := (q_rd_next T t0 tf tu tl t1 te tk tr tb tx)) hC V ⟨(Nat.le_of_ble_eq_true rfl), (Nat.le_of_ble_eq_true rfl)⟩ ⟨u2_87, l2_88, (nI 6), fr, be, rfl, rfl, (fun h => absurd h (by assumption)), (by omega)⟩ dX2_nextToken_169
                      · skip
                        refine lv_aload_n hx hb dX2_nextToken_137 rfl (lv_at hl 0 rfl) ?_
                        refine g_get hC V (ci := 2) uwX2 0 rfl rfl 5 (by decide) w_136 rfl rfl dX2_nextToken_138 ?_
                        refine lv_iconst (v := (nI 2)) hx hb dX2_nextToken_141 (by decide +kernel) ?_
                        refine lv_icmp_ne (tgt := 169) hx hb dX2_nextToken_142 (by decide) (fun c_90 => ?_) (fun c_90 => ?_)
                        · skip
                          exact g_vret (Qr := (q_rd_next T t0 tf tu tl t1 te tk tr tb tx)) hC V ⟨(Nat.le_of_ble_eq_true rfl), (Nat.le_of_ble_eq_true rfl)⟩ ⟨tu, tl, z_50, fr, be, rfl, rfl, id, (by omega)⟩ dX2_nextToken_169
                        · skip
                          refine lv_aload_n hx hb dX2_nextToken_145 rfl (lv_at hl 0 rfl) ?_
                          refine g_get hC V (ci := 2) uwX2 0 rfl rfl 7 (by decide) w_138 rfl rfl dX2_nextToken_146 ?_
                          refine lv_aload_n hx hb dX2_nextToken_149 rfl (lv_at hl 0 rfl) ?_
                          refine g_get hC V (ci := 2) uwX2 0 rfl rfl 6 (by decide) w_137 rfl rfl dX2_nextToken_150 ?_
                          refine lv_isub hx hb dX2_nextToken_153 ?_
                          refine lv_iconst (v := (nI 3)) hx hb dX2_nextToken_154 (by decide +kernel) ?_
                          refine lv_icmp_le (tgt := 169) hx hb dX2_nextToken_155 (by decide) (fun c_91 => ?_) (fun c_91 => ?_)
                          · skip
                            exact g_vret (Qr := (q_rd_next T t0 tf tu tl t1 te tk tr tb tx)) hC V ⟨(Nat.le_of_ble_eq_true rfl), (Nat.le_of_ble_eq_true rfl)⟩ ⟨tu, tl, z_50, fr, be, rfl, rfl, id, (by omega)⟩ dX2_nextToken_169
                          · skip
                            refine lv_aload_n hx hb dX2_nextToken_158 rfl (lv_at hl 0 rfl) ?_
                            refine lv_bipush (v := (nI 6)) hx hb dX2_nextToken_159 (by decide +kernel) ?_
                            refine g_put hC V (ci := 2) uwX2 tyX2 tyX2_ok nmX2 0 rfl rfl 5 (by decide) w_136 rfl rfl rfl rfl (Nat.le_of_ble_eq_true rfl) (ws' := [(t0, .inr (2, [.int (nI tf), .int tu, .int tl, .ref t1, .int (nI te), .int (nI 6), .int (nI fr), .int (nI be)])), (t1, .inl (T 3, 900, .inl tx))]) rfl dX2_nextToken_161 (fun H locs V => ?_)
                            refine lv_aload_n hx hb dX2_nextToken_164 rfl (lv_at hl 0 rfl) ?_
                            refine lv_iconst (v := (nI 1)) hx hb dX2_nextToken_165 (by decide +kernel) ?_
                            refine g_callV (wr := [(t1, .inl (T 3, 900, .inl tx))]) (nA := 1) hC V hl.1 (rd_fail l D T t0 (nI 1) tf tu tl t1 te (nI 6) fr be (by decide +kernel)) w_317 w_319 w_s2 w_4 w_320 (by decide +kernel) rfl ⟨(Nat.le_of_ble_eq_true rfl), (Nat.le_of_ble_eq_true rfl)⟩ 0 (ci := 2) rfl rfl [0] [1] rfl rfl rfl rfl (by decide) (Nat.le_of_ble_eq_true rfl) dX2_nextToken_166 ⟨(Nat.le_of_ble_eq_true rfl), (Nat.le_of_ble_eq_true rfl)⟩ rfl (fun r w1 H locs hQ V => ?_)
                            obtain ⟨u2_92, l2_93, rfl, rfl, f_94⟩ := hQ
                            have V : gW D T A s [(t1, .inl (T 3, 900, .inl tx)), (t0, .inr (2, [.int (nI tf), .int u2_92, .int l2_93, .ref t1, .int (nI te), .int (nI 6), .int (nI fr), .int (nI be)]))] H locs := V
                            show W p l e _ s m args below meth c H locs _ _ _ (F0 m 169 ls [])
                            have V := V.sub (ws' := [(t0, .inr (2, [.int (nI tf), .int u2_92, .int l2_93, .ref t1, .int (nI te), .int (nI 6), .int (nI fr), .int (nI be)])), (t1, .inl (T 3, 900, .inl tx))]) [1, 0] rfl rfl
                            exact g_vret (Qr := (q_rd_next T t0 tf tu tl t1 te tk tr tb tx)) hC V ⟨(Nat.le_of_ble_eq_true rfl), (Nat.le_of_ble_eq_true rfl)⟩ ⟨u2_92, l2_93, (nI 6), fr, be, rfl, rfl, (fun h => absurd h (by assumption)), (by omega)⟩ dX2_nextToken_169
                    · skip
                      refine lv_aload_n hx hb dX2_nextToken_115 rfl (lv_at hl 0 rfl) ?_
                      refine lv_dup hx hb dX2_nextToken_116 rfl ?_
                      refine g_get hC V (ci := 2) uwX2 0 rfl rfl 7 (by decide) w_138 rfl rfl dX2_nextToken_117 ?_
                      refine lv_iconst (v := (nI 1)) hx hb dX2_nextToken_120 (by decide +kernel) ?_
                      refine lv_iadd hx hb dX2_nextToken_121 ?_
                      refine g_vi (y := (nI (be + 1))) (nI_add _ _) ?_
                      refine g_put hC V (ci := 2) uwX2 tyX2 tyX2_ok nmX2 0 rfl rfl 7 (by decide) w_138 rfl rfl rfl rfl (Nat.le_of_ble_eq_true rfl) (ws' := [(t0, .inr (2, [.int (nI tf), .int tu, .int tl, .ref t1, .int (nI te), .int z_50, .int (nI fr), .int (nI (be + 1))])), (t1, .inl (T 3, 900, .inl tx))]) rfl dX2_nextToken_122 (fun H locs V => ?_)
                      refine lv_goto (tgt := 73) hx hb dX2_nextToken_125 (by decide) ?_
                      exact ih_73 (be + 1) (by omega) (by omega) _ _ _ V (lv_sub hl [0] rfl)
          exact L_51 _ (min (fr + 1) te) (by omega) (Nat.lt_succ_self _) _ _ _ V (lv_sub hl [0] rfl)
        · skip
          refine lv_aload_n hx hb dX2_nextToken_31 rfl (lv_at hl 0 rfl) ?_
          refine lv_dup hx hb dX2_nextToken_32 rfl ?_
          refine g_get hC V (ci := 2) uwX2 0 rfl rfl 6 (by decide) w_137 rfl rfl dX2_nextToken_33 ?_
          refine lv_iconst (v := (nI 1)) hx hb dX2_nextToken_36 (by decide +kernel) ?_
          refine lv_iadd hx hb dX2_nextToken_37 ?_
          refine g_vi (y := (nI (fr + 1))) (nI_add _ _) ?_
          refine g_put hC V (ci := 2) uwX2 tyX2 tyX2_ok nmX2 0 rfl rfl 6 (by decide) w_137 rfl rfl rfl rfl (Nat.le_of_ble_eq_true rfl) (ws' := [(t0, .inr (2, [.int (nI tf), .int tu, .int tl, .ref t1, .int (nI te), .int tk, .int (nI (fr + 1)), .int (nI tb)])), (t1, .inl (T 3, 900, .inl tx))]) rfl dX2_nextToken_38 (fun H locs V => ?_)
          refine lv_goto (tgt := 8) hx hb dX2_nextToken_41 (by decide) ?_
          exact ih_8 (fr + 1) (by omega) (by omega) _ _ _ V (lv_sub hl [0] rfl)
  exact L_1 _ tb (by omega) (Nat.lt_succ_self _) _ _ _ V (lv_sub hl [0] rfl)

def q_rd_takeNumber (T : Nat → ClassId) (t0 : Nat) (lo : Int32) (hi : Int32) (tf : Nat) (tu : Int32) (tl : Int32) (t1 : Nat) (te : Nat) (tk : Int32) (tr : Nat) (tb : Nat) (tx : Nat → Int32) : Option Value → va_W → Prop := fun rr ww => (∃ (z : Int32) (u2 : Int32) (l2 : Int32) (k2 : Int32) (r2 : Nat) (b2 : Nat), rr = some (.int z) ∧ ww = [(t0, .inr (2, [.int (nI tf), .int u2, .int l2, .ref t1, .int (nI te), .int k2, .int (nI r2), .int (nI b2)])), (t1, .inl (T 3, 900, .inl tx))] ∧ (u2 = 0 → tu = 0) ∧ (r2 ≤ b2 ∧ b2 ≤ te) ∧ (u2 = 0 → ¬ z < lo ∧ ¬ hi < z))
set_option maxHeartbeats 4000000 in
set_option maxRecDepth 100000 in
theorem rd_takeNumber (l : Launch) (D : va_G) (T : Nat → ClassId) (t0 : Nat) (lo : Int32) (hi : Int32) (tf : Nat) (tu : Int32) (tl : Int32) (t1 : Nat) (te : Nat) (tk : Int32) (tr : Nat) (tb : Nat) (tx : Nat → Int32) (h_e : te ≤ 900) (h_rb : tr ≤ tb ∧ tb ≤ te) : Ct l yX2_takeNumber cX2_takeNumber 5 (some .int) 2 0 0 D T [.ref t0, .int lo, .int hi] [(t0, .inr (2, [.int (nI tf), .int tu, .int tl, .ref t1, .int (nI te), .int tk, .int (nI tr), .int (nI tb)])), (t1, .inl (T 3, 900, .inl tx))] (q_rd_takeNumber T t0 lo hi tf tu tl t1 te tk tr tb tx) := by
  refine Ct.of (cc := cX2_takeNumber) (maxL := 5) (ret := (some .int)) (by decide) (Nat.le_of_ble_eq_true rfl) ?_
  intro p e s m args below meth c A ls hC hnm V hl
  obtain ⟨hx, hb, hr, hml, hown, hts, hlocks⟩ := id hC
  generalize hH : s.heap = H at V ⊢
  clear hH
  have hl : lv_has ls 5 [(0, .ref t0), (1, .int lo), (2, .int hi)] := hl
  generalize hlo : ([] : List Loc) = locs at V ⊢
  clear hlo
  refine lv_iconst (v := (nI 0)) hx hb dX2_takeNumber_0 (by decide +kernel) ?_
  refine lv_istore_n (lv' := [(3, .int (nI 0)), (0, .ref t0), (1, .int lo), (2, .int hi)]) hx hb dX2_takeNumber_1 rfl hl (by decide) rfl (fun ls hl => ?_)
  refine lv_aload_n hx hb dX2_takeNumber_2 rfl (lv_at hl 1 rfl) ?_
  refine g_get hC V (ci := 2) uwX2 0 rfl rfl 6 (by decide) w_137 rfl rfl dX2_takeNumber_3 ?_
  refine lv_istore (lv' := [(4, .int (nI tr)), (3, .int (nI 0)), (0, .ref t0), (1, .int lo), (2, .int hi)]) hx hb dX2_takeNumber_6 hl (by decide) rfl (fun ls hl => ?_)
  have L_1 : ∀ (fu : Nat) (at_ : Nat) (x8_3 : Int32), at_ ≤ tb → tb - at_ < fu → ∀ (H : Heap) (locs : List Loc) (ls : Array Slot), gW D T A s [(t0, .inr (2, [.int (nI tf), .int tu, .int tl, .ref t1, .int (nI te), .int tk, .int (nI tr), .int (nI tb)])), (t1, .inl (T 3, 900, .inl tx))] H locs → lv_has ls 5 [(4, .int (nI at_)), (3, .int x8_3), (0, .ref t0), (1, .int lo), (2, .int hi)] → W p l e (rmD 2 0 0) s m args below meth c H locs 0 0 (MQ below (gQ D A (q_rd_takeNumber T t0 lo hi tf tu tl t1 te tk tr tb tx)) args s 0 0 A) (F0 m 8 ls []) := by
    intro fu_8
    induction fu_8 with
    | zero => intro at_ x8_3 hat_ hmu; exact absurd hmu (Nat.not_lt_zero _)
    | succ fu_8 ih_8 =>
      intro at_ x8_3 hat_ hmu_8 H locs ls V hl
      refine lv_aload_n hx hb dX2_takeNumber_8 rfl (lv_at hl 2 rfl) ?_
      refine g_get hC V (ci := 2) uwX2 0 rfl rfl 5 (by decide) w_136 rfl rfl dX2_takeNumber_9 ?_
      refine lv_iconst (v := (nI 2)) hx hb dX2_takeNumber_12 (by decide +kernel) ?_
      refine lv_icmp_ne (tgt := 47) hx hb dX2_takeNumber_13 (by decide) (fun c_2 => ?_) (fun c_2 => ?_)
      · skip
        refine lv_aload_n hx hb dX2_takeNumber_47 rfl (lv_at hl 2 rfl) ?_
        refine g_get hC V (ci := 2) uwX2 0 rfl rfl 5 (by decide) w_136 rfl rfl dX2_takeNumber_48 ?_
        refine lv_iconst (v := (nI 2)) hx hb dX2_takeNumber_51 (by decide +kernel) ?_
        refine lv_icmp_eq (tgt := 63) hx hb dX2_takeNumber_52 (by decide) (fun c_3 => ?_) (fun c_3 => ?_)
        · skip
          refine lv_iload_n hx hb dX2_takeNumber_63 rfl (lv_at hl 1 rfl) ?_
          refine lv_iload_n hx hb dX2_takeNumber_64 rfl (lv_at hl 3 rfl) ?_
          refine lv_iload_n hx hb dX2_takeNumber_65 rfl (lv_at hl 4 rfl) ?_
          refine g_callSN (wr := [(t0, .inr (2, [.int (nI tf), .int tu, .int tl, .ref t1, .int (nI te), .int tk, .int (nI tr), .int (nI tb)])), (t1, .inl (T 3, 900, .inl tx))]) (nA := 3) (host := RX7) hC V hl.1 (c_isWithin l D T x8_3 lo hi) w_294 (List.mem_of_getElem? (i := 8) rfl) w_2 w_293 (by decide +kernel) rfl ⟨(Nat.le_of_ble_eq_true rfl), (Nat.le_of_ble_eq_true rfl)⟩ [] [0, 1] rfl rfl rfl rfl (by decide) (Nat.le_of_ble_eq_true rfl) dX2_takeNumber_66 ⟨(Nat.le_of_ble_eq_true rfl), (Nat.le_of_ble_eq_true rfl)⟩ rfl (fun r w1 H locs hQ V => ?_)
          rcases hQ with ⟨rfl, rfl, f_4, f_5⟩ | ⟨rfl, rfl, f_6⟩
          · have V : gW D T A s [(t0, .inr (2, [.int (nI tf), .int tu, .int tl, .ref t1, .int (nI te), .int tk, .int (nI tr), .int (nI tb)])), (t1, .inl (T 3, 900, .inl tx))] H locs := V
            show W p l e _ s m args below meth c H locs _ _ _ (F0 m 69 ls [.int (nI 1)])
            refine lv_if_ne (tgt := 77) hx hb dX2_takeNumber_69 (by decide) (fun _ => ?_) (fun c => absurd (show (nI 1) = 0 from c) (by decide +kernel))
            refine lv_aload_n hx hb dX2_takeNumber_77 rfl (lv_at hl 2 rfl) ?_
            refine g_get hC V (ci := 2) uwX2 0 rfl rfl 1 (by decide) w_130 rfl rfl dX2_takeNumber_78 ?_
            refine lv_if_eq (tgt := 86) hx hb dX2_takeNumber_81 (by decide) (fun c_7 => ?_) (fun c_7 => ?_)
            · skip
              refine lv_aload_n hx hb dX2_takeNumber_86 rfl (lv_at hl 2 rfl) ?_
              refine g_callV (wr := []) (nA := 0) hC V hl.1 (rd_next l D T t0 tf tu tl t1 te tk (nI tr) tb tx (by first | assumption | omega) (by first | assumption | omega)) w_309 w_311 w_s0 w_4 w_312 (by decide +kernel) rfl ⟨(Nat.le_of_ble_eq_true rfl), (Nat.le_of_ble_eq_true rfl)⟩ 0 (ci := 2) rfl rfl [0, 1] [] rfl rfl rfl rfl (by decide) (Nat.le_of_ble_eq_true rfl) dX2_takeNumber_87 ⟨(Nat.le_of_ble_eq_true rfl), (Nat.le_of_ble_eq_true rfl)⟩ rfl (fun r w1 H locs hQ V => ?_)
              obtain ⟨u2_8, l2_9, k2_10, r2_11, b2_12, rfl, rfl, f_13, f_14⟩ := hQ
              have V : gW D T A s [(t0, .inr (2, [.int (nI tf), .int u2_8, .int l2_9, .ref t1, .int (nI te), .int k2_10, .int (nI r2_11), .int (nI b2_12)])), (t1, .inl (T 3, 900, .inl tx))] H locs := V
              show W p l e _ s m args below meth c H locs _ _ _ (F0 m 90 ls [])
              refine lv_iload_n hx hb dX2_takeNumber_90 rfl (lv_at hl 1 rfl) ?_
              exact g_iret (Qr := (q_rd_takeNumber T t0 lo hi tf tu tl t1 te tk tr tb tx)) hC V ⟨(Nat.le_of_ble_eq_true rfl), (Nat.le_of_ble_eq_true rfl)⟩ ⟨x8_3, u2_8, l2_9, k2_10, r2_11, b2_12, rfl, rfl, (fun h => (by assumption)), (by omega), (fun _ => ⟨by assumption, by assumption⟩)⟩ dX2_takeNumber_91
            · skip
              refine lv_iconst (v := (nI 0)) hx hb dX2_takeNumber_84 (by decide +kernel) ?_
              exact g_iret (Qr := (q_rd_takeNumber T t0 lo hi tf tu tl t1 te tk tr tb tx)) hC V ⟨(Nat.le_of_ble_eq_true rfl), (Nat.le_of_ble_eq_true rfl)⟩ ⟨(nI 0), tu, tl, tk, tr, tb, rfl, rfl, (fun h => absurd h (by assumption)), (by omega), (fun h => absurd h (by assumption))⟩ dX2_takeNumber_85
          · have V : gW D T A s [(t0, .inr (2, [.int (nI tf), .int tu, .int tl, .ref t1, .int (nI te), .int tk, .int (nI tr), .int (nI tb)])), (t1, .inl (T 3, 900, .inl tx))] H locs := V
            show W p l e _ s m args below meth c H locs _ _ _ (F0 m 69 ls [.int (nI 0)])
            refine lv_if_ne (tgt := 77) hx hb dX2_takeNumber_69 (by decide) (fun c => absurd (show (nI 0) = 0 by decide +kernel) c) (fun _ => ?_)
            refine lv_aload_n hx hb dX2_takeNumber_72 rfl (lv_at hl 2 rfl) ?_
            refine lv_iconst (v := (nI 3)) hx hb dX2_takeNumber_73 (by decide +kernel) ?_
            refine g_callV (wr := [(t1, .inl (T 3, 900, .inl tx))]) (nA := 1) hC V hl.1 (rd_fail l D T t0 (nI 3) tf tu tl t1 te tk tr tb (by decide +kernel)) w_317 w_319 w_s2 w_4 w_320 (by decide +kernel) rfl ⟨(Nat.le_of_ble_eq_true rfl), (Nat.le_of_ble_eq_true rfl)⟩ 0 (ci := 2) rfl rfl [0] [1] rfl rfl rfl rfl (by decide) (Nat.le_of_ble_eq_true rfl) dX2_takeNumber_74 ⟨(Nat.le_of_ble_eq_true rfl), (Nat.le_of_ble_eq_true rfl)⟩ rfl (fun r w1 H locs hQ V => ?_)
            obtain ⟨u2_15, l2_16, rfl, rfl, f_17⟩ := hQ
            have V : gW D T A s [(t1, .inl (T 3, 900, .inl tx)), (t0, .inr (2, [.int (nI tf), .int u2_15, .int l2_16, .ref t1, .int (nI te), .int tk, .int (nI tr), .int (nI tb)]))] H locs := V
            show W p l e _ s m args below meth c H locs _ _ _ (F0 m 77 ls [])
            refine lv_aload_n hx hb dX2_takeNumber_77 rfl (lv_at hl 2 rfl) ?_
            refine g_get hC V (ci := 2) uwX2 1 rfl rfl 1 (by decide) w_130 rfl rfl dX2_takeNumber_78 ?_
            refine lv_if_eq (tgt := 86) hx hb dX2_takeNumber_81 (by decide) (fun c_18 => ?_) (fun c_18 => ?_)
            · skip
              exact absurd c_18 (by assumption)
            · skip
              refine lv_iconst (v := (nI 0)) hx hb dX2_takeNumber_84 (by decide +kernel) ?_
              have V := V.sub (ws' := [(t0, .inr (2, [.int (nI tf), .int u2_15, .int l2_16, .ref t1, .int (nI te), .int tk, .int (nI tr), .int (nI tb)])), (t1, .inl (T 3, 900, .inl tx))]) [1, 0] rfl rfl
              exact g_iret (Qr := (q_rd_takeNumber T t0 lo hi tf tu tl t1 te tk tr tb tx)) hC V ⟨(Nat.le_of_ble_eq_true rfl), (Nat.le_of_ble_eq_true rfl)⟩ ⟨(nI 0), u2_15, l2_16, tk, tr, tb, rfl, rfl, (fun h => absurd h (by assumption)), (by omega), (fun h => absurd h (by assumption))⟩ dX2_takeNumber_85
        · skip
          refine lv_aload_n hx hb dX2_takeNumber_55 rfl (lv_at hl 2 rfl) ?_
          refine lv_iconst (v := (nI 2)) hx hb dX2_takeNumber_56 (by decide +kernel) ?_
          refine g_callV (wr := [(t1, .inl (T 3, 900, .inl tx))]) (nA := 1) hC V hl.1 (rd_fail l D T t0 (nI 2) tf tu tl t1 te tk tr tb (by decide +kernel)) w_317 w_319 w_s2 w_4 w_320 (by decide +kernel) rfl ⟨(Nat.le_of_ble_eq_true rfl), (Nat.le_of_ble_eq_true rfl)⟩ 0 (ci := 2) rfl rfl [0] [1] rfl rfl rfl rfl (by decide) (Nat.le_of_ble_eq_true rfl) dX2_takeNumber_57 ⟨(Nat.le_of_ble_eq_true rfl), (Nat.le_of_ble_eq_true rfl)⟩ rfl (fun r w1 H locs hQ V => ?_)
          obtain ⟨u2_19, l2_20, rfl, rfl, f_21⟩ := hQ
          have V : gW D T A s [(t1, .inl (T 3, 900, .inl tx)), (t0, .inr (2, [.int (nI tf), .int u2_19, .int l2_20, .ref t1, .int (nI te), .int tk, .int (nI tr), .int (nI tb)]))] H locs := V
          show W p l e _ s m args below meth c H locs _ _ _ (F0 m 60 ls [])
          refine lv_goto (tgt := 77) hx hb dX2_takeNumber_60 (by decide) ?_
          refine lv_aload_n hx hb dX2_takeNumber_77 rfl (lv_at hl 2 rfl) ?_
          refine g_get hC V (ci := 2) uwX2 1 rfl rfl 1 (by decide) w_130 rfl rfl dX2_takeNumber_78 ?_
          refine lv_if_eq (tgt := 86) hx hb dX2_takeNumber_81 (by decide) (fun c_22 => ?_) (fun c_22 => ?_)
          · skip
            exact absurd c_22 (by assumption)
          · skip
            refine lv_iconst (v := (nI 0)) hx hb dX2_takeNumber_84 (by decide +kernel) ?_
            have V := V.sub (ws' := [(t0, .inr (2, [.int (nI tf), .int u2_19, .int l2_20, .ref t1, .int (nI te), .int tk, .int (nI tr), .int (nI tb)])), (t1, .inl (T 3, 900, .inl tx))]) [1, 0] rfl rfl
            exact g_iret (Qr := (q_rd_takeNumber T t0 lo hi tf tu tl t1 te tk tr tb tx)) hC V ⟨(Nat.le_of_ble_eq_true rfl), (Nat.le_of_ble_eq_true rfl)⟩ ⟨(nI 0), u2_19, l2_20, tk, tr, tb, rfl, rfl, (fun h => absurd h (by assumption)), (by omega), (fun h => absurd h (by assumption))⟩ dX2_takeNumber_85
      · skip
        refine lv_iload hx hb dX2_takeNumber_16 (lv_at hl 0 rfl) ?_
        refine lv_aload_n hx hb dX2_takeNumber_18 rfl (lv_at hl 2 rfl) ?_
        refine g_get hC V (ci := 2) uwX2 0 rfl rfl 7 (by decide) w_138 rfl rfl dX2_takeNumber_19 ?_
        refine lv_icmp_ge (tgt := 47) hx hb dX2_takeNumber_22 (by decide) (fun c_23 => ?_) (fun c_23 => ?_)
        · skip
          have c_23 := b_le (by omega) (by omega) c_23
          refine lv_aload_n hx hb dX2_takeNumber_47 rfl (lv_at hl 2 rfl) ?_
          refine g_get hC V (ci := 2) uwX2 0 rfl rfl 5 (by decide) w_136 rfl rfl dX2_takeNumber_48 ?_
          refine lv_iconst (v := (nI 2)) hx hb dX2_takeNumber_51 (by decide +kernel) ?_
          refine lv_icmp_eq (tgt := 63) hx hb dX2_takeNumber_52 (by decide) (fun c_24 => ?_) (fun c_24 => ?_)
          · skip
            refine lv_iload_n hx hb dX2_takeNumber_63 rfl (lv_at hl 1 rfl) ?_
            refine lv_iload_n hx hb dX2_takeNumber_64 rfl (lv_at hl 3 rfl) ?_
            refine lv_iload_n hx hb dX2_takeNumber_65 rfl (lv_at hl 4 rfl) ?_
            refine g_callSN (wr := [(t0, .inr (2, [.int (nI tf), .int tu, .int tl, .ref t1, .int (nI te), .int tk, .int (nI tr), .int (nI tb)])), (t1, .inl (T 3, 900, .inl tx))]) (nA := 3) (host := RX7) hC V hl.1 (c_isWithin l D T x8_3 lo hi) w_294 (List.mem_of_getElem? (i := 8) rfl) w_2 w_293 (by decide +kernel) rfl ⟨(Nat.le_of_ble_eq_true rfl), (Nat.le_of_ble_eq_true rfl)⟩ [] [0, 1] rfl rfl rfl rfl (by decide) (Nat.le_of_ble_eq_true rfl) dX2_takeNumber_66 ⟨(Nat.le_of_ble_eq_true rfl), (Nat.le_of_ble_eq_true rfl)⟩ rfl (fun r w1 H locs hQ V => ?_)
            rcases hQ with ⟨rfl, rfl, f_25, f_26⟩ | ⟨rfl, rfl, f_27⟩
            · have V : gW D T A s [(t0, .inr (2, [.int (nI tf), .int tu, .int tl, .ref t1, .int (nI te), .int tk, .int (nI tr), .int (nI tb)])), (t1, .inl (T 3, 900, .inl tx))] H locs := V
              show W p l e _ s m args below meth c H locs _ _ _ (F0 m 69 ls [.int (nI 1)])
              refine lv_if_ne (tgt := 77) hx hb dX2_takeNumber_69 (by decide) (fun _ => ?_) (fun c => absurd (show (nI 1) = 0 from c) (by decide +kernel))
              refine lv_aload_n hx hb dX2_takeNumber_77 rfl (lv_at hl 2 rfl) ?_
              refine g_get hC V (ci := 2) uwX2 0 rfl rfl 1 (by decide) w_130 rfl rfl dX2_takeNumber_78 ?_
              refine lv_if_eq (tgt := 86) hx hb dX2_takeNumber_81 (by decide) (fun c_28 => ?_) (fun c_28 => ?_)
              · skip
                refine lv_aload_n hx hb dX2_takeNumber_86 rfl (lv_at hl 2 rfl) ?_
                refine g_callV (wr := []) (nA := 0) hC V hl.1 (rd_next l D T t0 tf tu tl t1 te tk (nI tr) tb tx (by first | assumption | omega) (by first | assumption | omega)) w_309 w_311 w_s0 w_4 w_312 (by decide +kernel) rfl ⟨(Nat.le_of_ble_eq_true rfl), (Nat.le_of_ble_eq_true rfl)⟩ 0 (ci := 2) rfl rfl [0, 1] [] rfl rfl rfl rfl (by decide) (Nat.le_of_ble_eq_true rfl) dX2_takeNumber_87 ⟨(Nat.le_of_ble_eq_true rfl), (Nat.le_of_ble_eq_true rfl)⟩ rfl (fun r w1 H locs hQ V => ?_)
                obtain ⟨u2_29, l2_30, k2_31, r2_32, b2_33, rfl, rfl, f_34, f_35⟩ := hQ
                have V : gW D T A s [(t0, .inr (2, [.int (nI tf), .int u2_29, .int l2_30, .ref t1, .int (nI te), .int k2_31, .int (nI r2_32), .int (nI b2_33)])), (t1, .inl (T 3, 900, .inl tx))] H locs := V
                show W p l e _ s m args below meth c H locs _ _ _ (F0 m 90 ls [])
                refine lv_iload_n hx hb dX2_takeNumber_90 rfl (lv_at hl 1 rfl) ?_
                exact g_iret (Qr := (q_rd_takeNumber T t0 lo hi tf tu tl t1 te tk tr tb tx)) hC V ⟨(Nat.le_of_ble_eq_true rfl), (Nat.le_of_ble_eq_true rfl)⟩ ⟨x8_3, u2_29, l2_30, k2_31, r2_32, b2_33, rfl, rfl, (fun h => (by assumption)), (by omega), (fun _ => ⟨by assumption, by assumption⟩)⟩ dX2_takeNumber_91
              · skip
                refine lv_iconst (v := (nI 0)) hx hb dX2_takeNumber_84 (by decide +kernel) ?_
                exact g_iret (Qr := (q_rd_takeNumber T t0 lo hi tf tu tl t1 te tk tr tb tx)) hC V ⟨(Nat.le_of_ble_eq_true rfl), (Nat.le_of_ble_eq_true rfl)⟩ ⟨(nI 0), tu, tl, tk, tr, tb, rfl, rfl, (fun h => absurd h (by assumption)), (by omega), (fun h => absurd h (by assumption))⟩ dX2_takeNumber_85
            · have V : gW D T A s [(t0, .inr (2, [.int (nI tf), .int tu, .int tl, .ref t1, .int (nI te), .int tk, .int (nI tr), .int (nI tb)])), (t1, .inl (T 3, 900, .inl tx))] H locs := V
              show W p l e _ s m args below meth c H locs _ _ _ (F0 m 69 ls [.int (nI 0)])
              refine lv_if_ne (tgt := 77) hx hb dX2_takeNumber_69 (by decide) (fun c => absurd (show (nI 0) = 0 by decide +kernel) c) (fun _ => ?_)
              refine lv_aload_n hx hb dX2_takeNumber_72 rfl (lv_at hl 2 rfl) ?_
              refine lv_iconst (v := (nI 3)) hx hb dX2_takeNumber_73 (by decide +kernel) ?_
              refine g_callV (wr := [(t1, .inl (T 3, 900, .inl tx))]) (nA := 1) hC V hl.1 (rd_fail l D T t0 (nI 3) tf tu tl t1 te tk tr tb (by decide +kernel)) w_317 w_319 w_s2 w_4 w_320 (by decide +kernel) rfl ⟨(Nat.le_of_ble_eq_true rfl), (Nat.le_of_ble_eq_true rfl)⟩ 0 (ci := 2) rfl rfl [0] [1] rfl rfl rfl rfl (by decide) (Nat.le_of_ble_eq_true rfl) dX2_takeNumber_74 ⟨(Nat.le_of_ble_eq_true rfl), (Nat.le_of_ble_eq_true rfl)⟩ rfl (fun r w1 H locs hQ V => ?_)
              obtain ⟨u2_36, l2_37, rfl, rfl, f_38⟩ := hQ
              have V : gW D T A s [(t1, .inl (T 3, 900, .inl tx)), (t0, .inr (2, [.int (nI tf), .int u2_36, .int l2_37, .ref t1, .int (nI te), .int tk, .int (nI tr), .int (nI tb)]))] H locs := V
              show W p l e _ s m args below meth c H locs _ _ _ (F0 m 77 ls [])
              refine lv_aload_n hx hb dX2_takeNumber_77 rfl (lv_at hl 2 rfl) ?_
              refine g_get hC V (ci := 2) uwX2 1 rfl rfl 1 (by decide) w_130 rfl rfl dX2_takeNumber_78 ?_
              refine lv_if_eq (tgt := 86) hx hb dX2_takeNumber_81 (by decide) (fun c_39 => ?_) (fun c_39 => ?_)
              · skip
                exact absurd c_39 (by assumption)
              · skip
                refine lv_iconst (v := (nI 0)) hx hb dX2_takeNumber_84 (by decide +kernel) ?_
                have V := V.sub (ws' := [(t0, .inr (2, [.int (nI tf), .int u2_36, .int l2_37, .ref t1, .int (nI te), .int tk, .int (nI tr), .int (nI tb)])), (t1, .inl (T 3, 900, .inl tx))]) [1, 0] rfl rfl
                exact g_iret (Qr := (q_rd_takeNumber T t0 lo hi tf tu tl t1 te tk tr tb tx)) hC V ⟨(Nat.le_of_ble_eq_true rfl), (Nat.le_of_ble_eq_true rfl)⟩ ⟨(nI 0), u2_36, l2_37, tk, tr, tb, rfl, rfl, (fun h => absurd h (by assumption)), (by omega), (fun h => absurd h (by assumption))⟩ dX2_takeNumber_85
          · skip
            refine lv_aload_n hx hb dX2_takeNumber_55 rfl (lv_at hl 2 rfl) ?_
            refine lv_iconst (v := (nI 2)) hx hb dX2_takeNumber_56 (by decide +kernel) ?_
            refine g_callV (wr := [(t1, .inl (T 3, 900, .inl tx))]) (nA := 1) hC V hl.1 (rd_fail l D T t0 (nI 2) tf tu tl t1 te tk tr tb (by decide +kernel)) w_317 w_319 w_s2 w_4 w_320 (by decide +kernel) rfl ⟨(Nat.le_of_ble_eq_true rfl), (Nat.le_of_ble_eq_true rfl)⟩ 0 (ci := 2) rfl rfl [0] [1] rfl rfl rfl rfl (by decide) (Nat.le_of_ble_eq_true rfl) dX2_takeNumber_57 ⟨(Nat.le_of_ble_eq_true rfl), (Nat.le_of_ble_eq_true rfl)⟩ rfl (fun r w1 H locs hQ V => ?_)
            obtain ⟨u2_40, l2_41, rfl, rfl, f_42⟩ := hQ
            have V : gW D T A s [(t1, .inl (T 3, 900, .inl tx)), (t0, .inr (2, [.int (nI tf), .int u2_40, .int l2_41, .ref t1, .int (nI te), .int tk, .int (nI tr), .int (nI tb)]))] H locs := V
            show W p l e _ s m args below meth c H locs _ _ _ (F0 m 60 ls [])
            refine lv_goto (tgt := 77) hx hb dX2_takeNumber_60 (by decide) ?_
            refine lv_aload_n hx hb dX2_takeNumber_77 rfl (lv_at hl 2 rfl) ?_
            refine g_get hC V (ci := 2) uwX2 1 rfl rfl 1 (by decide) w_130 rfl rfl dX2_takeNumber_78 ?_
            refine lv_if_eq (tgt := 86) hx hb dX2_takeNumber_81 (by decide) (fun c_43 => ?_) (fun c_43 => ?_)
            · skip
              exact absurd c_43 (by assumption)
            · skip
              refine lv_iconst (v := (nI 0)) hx hb dX2_takeNumber_84 (by decide +kernel) ?_
              have V := V.sub (ws' := [(t0, .inr (2, [.int (nI tf), .int u2_40, .int l2_41, .ref t1, .int (nI te), .int tk, .int (nI tr), .int (nI tb)])), (t1, .inl (T 3, 900, .inl tx))]) [1, 0] rfl rfl
              exact g_iret (Qr := (q_rd_takeNumber T t0 lo hi tf tu tl t1 te tk tr tb tx)) hC V ⟨(Nat.le_of_ble_eq_true rfl), (Nat.le_of_ble_eq_true rfl)⟩ ⟨(nI 0), u2_40, l2_41, tk, tr, tb, rfl, rfl, (fun h => absurd h (by assumption)), (by omega), (fun h => absurd h (by assumption))⟩ dX2_takeNumber_85
        · skip
          have c_23 := b_nle (by omega) (by omega) c_23
          refine lv_bipush (v := (nI 10)) hx hb dX2_takeNumber_25 (by decide +kernel) ?_
          refine lv_iload_n hx hb dX2_takeNumber_27 rfl (lv_at hl 1 rfl) ?_
          refine lv_imul hx hb dX2_takeNumber_28 ?_
          refine lv_aload_n hx hb dX2_takeNumber_29 rfl (lv_at hl 2 rfl) ?_
          refine g_get hC V (ci := 2) uwX2 0 rfl rfl 3 (by decide) w_134 rfl rfl dX2_takeNumber_30 ?_
          refine lv_iload hx hb dX2_takeNumber_33 (lv_at hl 0 rfl) ?_
          refine g_bald hC V 1 rfl (vp_in_nI (by omega) (by omega)) (v := (tx at_)) (congrArg _ (nI_clamp (by omega))) dX2_takeNumber_35 ?_
          refine lv_iadd hx hb dX2_takeNumber_36 ?_
          refine lv_bipush (v := (nI 48)) hx hb dX2_takeNumber_37 (by decide +kernel) ?_
          refine lv_isub hx hb dX2_takeNumber_39 ?_
          refine lv_istore_n (lv' := [(3, .int ((((nI 10) * x8_3) + (tx at_)) - (nI 48))), (4, .int (nI at_)), (0, .ref t0), (1, .int lo), (2, .int hi)]) hx hb dX2_takeNumber_40 rfl hl (by decide) rfl (fun ls hl => ?_)
          refine lv_iinc (v := (nI (at_ + 1))) (lv' := [(4, .int (nI (at_ + 1))), (3, .int ((((nI 10) * x8_3) + (tx at_)) - (nI 48))), (0, .ref t0), (1, .int lo), (2, .int hi)]) hx hb dX2_takeNumber_41 hl (k := 1) rfl (nI_1 _) (by decide) rfl (fun ls hl => ?_)
          refine lv_goto (tgt := 8) hx hb dX2_takeNumber_44 (by decide) ?_
          exact ih_8 (at_ + 1) ((((nI 10) * x8_3) + (tx at_)) - (nI 48)) (by omega) (by omega) _ _ _ V (lv_sub hl [0, 1, 2, 3, 4] rfl)
  exact L_1 _ tr (nI 0) (by omega) (Nat.lt_succ_self _) _ _ _ V (lv_sub hl [0, 1, 2, 3, 4] rfl)

def q_rd_isWord (T : Nat → ClassId) (si : Nat) (t0 : Nat) (tf : Nat) (tu : Int32) (tl : Int32) (t1 : Nat) (te : Nat) (tk : Int32) (tr : Nat) (tb : Nat) (tx : Nat → Int32) : Option Value → va_W → Prop := fun rr ww => (rr = some (.int (nI 1)) ∧ ww = [(t0, .inr (2, [.int (nI tf), .int tu, .int tl, .ref t1, .int (nI te), .int tk, .int (nI tr), .int (nI tb)])), (t1, .inl (T 3, 900, .inl tx))]) ∨ (rr = some (.int (nI 0)) ∧ ww = [(t0, .inr (2, [.int (nI tf), .int tu, .int tl, .ref t1, .int (nI te), .int tk, .int (nI tr), .int (nI tb)])), (t1, .inl (T 3, 900, .inl tx))])
set_option maxHeartbeats 4000000 in
set_option maxRecDepth 100000 in
theorem rd_isWord (l : Launch) (D : va_G) (T : Nat → ClassId) (si : Nat) (t0 : Nat) (tf : Nat) (tu : Int32) (tl : Int32) (t1 : Nat) (te : Nat) (tk : Int32) (tr : Nat) (tb : Nat) (tx : Nat → Int32) (h_e : te ≤ 900) (h_rb : tr ≤ tb ∧ tb ≤ te) (h_i : si < 9) : Ct l yX2_isWord cX2_isWord 3 (some .boolean) 4 0 0 D T [.ref t0, .ref (D.2 9 si)] [(t0, .inr (2, [.int (nI tf), .int tu, .int tl, .ref t1, .int (nI te), .int tk, .int (nI tr), .int (nI tb)])), (t1, .inl (T 3, 900, .inl tx))] (q_rd_isWord T si t0 tf tu tl t1 te tk tr tb tx) := by
  refine Ct.of (cc := cX2_isWord) (maxL := 3) (ret := (some .boolean)) (by decide) (Nat.le_of_ble_eq_true rfl) ?_
  intro p e s m args below meth c A ls hC hnm V hl
  obtain ⟨hx, hb, hr, hml, hown, hts, hlocks⟩ := id hC
  generalize hH : s.heap = H at V ⊢
  clear hH
  have hl : lv_has ls 3 [(0, .ref t0), (1, .ref (D.2 9 si))] := hl
  generalize hlo : ([] : List Loc) = locs at V ⊢
  clear hlo
  have hsl := slen_le h_i
  refine lv_aload_n hx hb dX2_isWord_0 rfl (lv_at hl 0 rfl) ?_
  refine g_get hC V (ci := 2) uwX2 0 rfl rfl 5 (by decide) w_136 rfl rfl dX2_isWord_1 ?_
  refine lv_iconst (v := (nI 1)) hx hb dX2_isWord_4 (by decide +kernel) ?_
  refine lv_icmp_ne (tgt := 24) hx hb dX2_isWord_5 (by decide) (fun c_1 => ?_) (fun c_1 => ?_)
  · skip
    refine lv_iconst (v := (nI 0)) hx hb dX2_isWord_24 (by decide +kernel) ?_
    exact g_zret (Qr := (q_rd_isWord T si t0 tf tu tl t1 te tk tr tb tx)) hC V ⟨(Nat.le_of_ble_eq_true rfl), (Nat.le_of_ble_eq_true rfl)⟩ (by first | decide +kernel | exact rfl) (.inr ⟨rfl, rfl⟩) dX2_isWord_25
  · skip
    refine lv_aload_n hx hb dX2_isWord_8 rfl (lv_at hl 0 rfl) ?_
    refine g_get hC V (ci := 2) uwX2 0 rfl rfl 7 (by decide) w_138 rfl rfl dX2_isWord_9 ?_
    refine lv_aload_n hx hb dX2_isWord_12 rfl (lv_at hl 0 rfl) ?_
    refine g_get hC V (ci := 2) uwX2 0 rfl rfl 6 (by decide) w_137 rfl rfl dX2_isWord_13 ?_
    refine lv_isub hx hb dX2_isWord_16 ?_
    refine g_vi (y := (nI (tb - tr))) (nI_sub (by omega)) ?_
    refine lv_aload_n hx hb dX2_isWord_17 rfl (lv_at hl 1 rfl) ?_
    refine g_callZ (wr := [(t0, .inr (2, [.int (nI tf), .int tu, .int tl, .ref t1, .int (nI te), .int tk, .int (nI tr), .int (nI tb)])), (t1, .inl (T 3, 900, .inl tx))]) (nA := 0) hC V hl.1 (z_length l D T si (by first | assumption | omega)) w_326 w_327 w_328 w_12 w_329 (by decide +kernel) rfl ⟨(Nat.le_of_ble_eq_true rfl), (Nat.le_of_ble_eq_true rfl)⟩ (si := si) (by first | assumption | decide) rfl rfl [] [0, 1] rfl rfl rfl rfl (by decide) (Nat.le_of_ble_eq_true rfl) dX2_isWord_18 ⟨(Nat.le_of_ble_eq_true rfl), (Nat.le_of_ble_eq_true rfl)⟩ rfl (fun r w1 H locs hQ V => ?_)
    obtain ⟨rfl, rfl⟩ := hQ
    have V : gW D T A s [(t0, .inr (2, [.int (nI tf), .int tu, .int tl, .ref t1, .int (nI te), .int tk, .int (nI tr), .int (nI tb)])), (t1, .inl (T 3, 900, .inl tx))] H locs := V
    show W p l e _ s m args below meth c H locs _ _ _ (F0 m 21 ls [.int (nI (sLen.getD si 0)), .int (nI (tb - tr))])
    refine lv_icmp_eq (tgt := 26) hx hb dX2_isWord_21 (by decide) (fun c_2 => ?_) (fun c_2 => ?_)
    · skip
      have c_2 := b_eq (by omega) (by omega) c_2
      have hlen := c_2
      refine lv_iconst (v := (nI 0)) hx hb dX2_isWord_26 (by decide +kernel) ?_
      refine lv_istore_n (lv' := [(2, .int (nI 0)), (0, .ref t0), (1, .ref (D.2 9 si))]) hx hb dX2_isWord_27 rfl hl (by decide) rfl (fun ls hl => ?_)
      have L_3 : ∀ (fu : Nat) (k : Nat), k ≤ sLen.getD si 0 → sLen.getD si 0 - k < fu → ∀ (H : Heap) (locs : List Loc) (ls : Array Slot), gW D T A s [(t0, .inr (2, [.int (nI tf), .int tu, .int tl, .ref t1, .int (nI te), .int tk, .int (nI tr), .int (nI tb)])), (t1, .inl (T 3, 900, .inl tx))] H locs → lv_has ls 3 [(2, .int (nI k)), (0, .ref t0), (1, .ref (D.2 9 si))] → W p l e (rmD 4 0 0) s m args below meth c H locs 0 0 (MQ below (gQ D A (q_rd_isWord T si t0 tf tu tl t1 te tk tr tb tx)) args s 0 0 A) (F0 m 28 ls []) := by
        intro fu_28
        induction fu_28 with
        | zero => intro k hk hmu; exact absurd hmu (Nat.not_lt_zero _)
        | succ fu_28 ih_28 =>
          intro k hk hmu_28 H locs ls V hl
          refine lv_iload_n hx hb dX2_isWord_28 rfl (lv_at hl 0 rfl) ?_
          refine lv_aload_n hx hb dX2_isWord_29 rfl (lv_at hl 2 rfl) ?_
          refine g_callZ (wr := [(t0, .inr (2, [.int (nI tf), .int tu, .int tl, .ref t1, .int (nI te), .int tk, .int (nI tr), .int (nI tb)])), (t1, .inl (T 3, 900, .inl tx))]) (nA := 0) hC V hl.1 (z_length l D T si (by first | assumption | omega)) w_326 w_327 w_328 w_12 w_329 (by decide +kernel) rfl ⟨(Nat.le_of_ble_eq_true rfl), (Nat.le_of_ble_eq_true rfl)⟩ (si := si) (by first | assumption | decide) rfl rfl [] [0, 1] rfl rfl rfl rfl (by decide) (Nat.le_of_ble_eq_true rfl) dX2_isWord_30 ⟨(Nat.le_of_ble_eq_true rfl), (Nat.le_of_ble_eq_true rfl)⟩ rfl (fun r w1 H locs hQ V => ?_)
          obtain ⟨rfl, rfl⟩ := hQ
          have V : gW D T A s [(t0, .inr (2, [.int (nI tf), .int tu, .int tl, .ref t1, .int (nI te), .int tk, .int (nI tr), .int (nI tb)])), (t1, .inl (T 3, 900, .inl tx))] H locs := V
          show W p l e _ s m args below meth c H locs _ _ _ (F0 m 33 ls [.int (nI (sLen.getD si 0)), .int (nI k)])
          refine lv_icmp_ge (tgt := 63) hx hb dX2_isWord_33 (by decide) (fun c_4 => ?_) (fun c_4 => ?_)
          · skip
            have c_4 := b_le (by omega) (by omega) c_4
            refine lv_iconst (v := (nI 1)) hx hb dX2_isWord_63 (by decide +kernel) ?_
            exact g_zret (Qr := (q_rd_isWord T si t0 tf tu tl t1 te tk tr tb tx)) hC V ⟨(Nat.le_of_ble_eq_true rfl), (Nat.le_of_ble_eq_true rfl)⟩ (by first | decide +kernel | exact rfl) (.inl ⟨rfl, rfl⟩) dX2_isWord_64
          · skip
            have c_4 := b_nle (by omega) (by omega) c_4
            refine lv_aload_n hx hb dX2_isWord_36 rfl (lv_at hl 1 rfl) ?_
            refine g_get hC V (ci := 2) uwX2 0 rfl rfl 3 (by decide) w_134 rfl rfl dX2_isWord_37 ?_
            refine lv_aload_n hx hb dX2_isWord_40 rfl (lv_at hl 1 rfl) ?_
            refine g_get hC V (ci := 2) uwX2 0 rfl rfl 6 (by decide) w_137 rfl rfl dX2_isWord_41 ?_
            refine lv_iload_n hx hb dX2_isWord_44 rfl (lv_at hl 0 rfl) ?_
            refine lv_iadd hx hb dX2_isWord_45 ?_
            refine g_vi (y := (nI (tr + k))) (nI_add _ _) ?_
            refine g_bald hC V 1 rfl (vp_in_nI (by omega) (by omega)) (v := (tx (tr + k))) (congrArg _ (nI_clamp (by omega))) dX2_isWord_46 ?_
            refine lv_aload_n hx hb dX2_isWord_47 rfl (lv_at hl 2 rfl) ?_
            refine lv_iload_n hx hb dX2_isWord_48 rfl (lv_at hl 0 rfl) ?_
            refine g_callZ (wr := [(t0, .inr (2, [.int (nI tf), .int tu, .int tl, .ref t1, .int (nI te), .int tk, .int (nI tr), .int (nI tb)])), (t1, .inl (T 3, 900, .inl tx))]) (nA := 1) hC V hl.1 (z_charAt l D T si k (by first | assumption | omega) (by first | assumption | omega)) w_336 w_337 w_338 w_12 w_339 (by decide +kernel) rfl ⟨(Nat.le_of_ble_eq_true rfl), (Nat.le_of_ble_eq_true rfl)⟩ (si := si) (by first | assumption | decide) rfl rfl [] [0, 1] rfl rfl rfl rfl (by decide) (Nat.le_of_ble_eq_true rfl) dX2_isWord_49 ⟨(Nat.le_of_ble_eq_true rfl), (Nat.le_of_ble_eq_true rfl)⟩ rfl (fun r w1 H locs hQ V => ?_)
            obtain ⟨z_5, rfl, rfl, f_6⟩ := hQ
            have V : gW D T A s [(t0, .inr (2, [.int (nI tf), .int tu, .int tl, .ref t1, .int (nI te), .int tk, .int (nI tr), .int (nI tb)])), (t1, .inl (T 3, 900, .inl tx))] H locs := V
            show W p l e _ s m args below meth c H locs _ _ _ (F0 m 52 ls [.int z_5, .int (tx (tr + k))])
            refine lv_icmp_eq (tgt := 57) hx hb dX2_isWord_52 (by decide) (fun c_7 => ?_) (fun c_7 => ?_)
            · skip
              refine lv_iinc (v := (nI (k + 1))) (lv' := [(2, .int (nI (k + 1))), (0, .ref t0), (1, .ref (D.2 9 si))]) hx hb dX2_isWord_57 hl (k := 0) rfl (nI_1 _) (by decide) rfl (fun ls hl => ?_)
              refine lv_goto (tgt := 28) hx hb dX2_isWord_60 (by decide) ?_
              exact ih_28 (k + 1) (by omega) (by omega) _ _ _ V (lv_sub hl [0, 1, 2] rfl)
            · skip
              refine lv_iconst (v := (nI 0)) hx hb dX2_isWord_55 (by decide +kernel) ?_
              exact g_zret (Qr := (q_rd_isWord T si t0 tf tu tl t1 te tk tr tb tx)) hC V ⟨(Nat.le_of_ble_eq_true rfl), (Nat.le_of_ble_eq_true rfl)⟩ (by first | decide +kernel | exact rfl) (.inr ⟨rfl, rfl⟩) dX2_isWord_56
      exact L_3 _ 0 (by omega) (Nat.lt_succ_self _) _ _ _ V (lv_sub hl [0, 1, 2] rfl)
    · skip
      have c_2 := b_ne (by omega) (by omega) c_2
      refine lv_iconst (v := (nI 0)) hx hb dX2_isWord_24 (by decide +kernel) ?_
      exact g_zret (Qr := (q_rd_isWord T si t0 tf tu tl t1 te tk tr tb tx)) hC V ⟨(Nat.le_of_ble_eq_true rfl), (Nat.le_of_ble_eq_true rfl)⟩ (by first | decide +kernel | exact rfl) (.inr ⟨rfl, rfl⟩) dX2_isWord_25

def q_rd_takeOption (T : Nat → ClassId) (si : Nat) (t0 : Nat) (lo : Int32) (hi : Int32) (wo : Int32) (tf : Nat) (tu : Int32) (tl : Int32) (t1 : Nat) (te : Nat) (tk : Int32) (tr : Nat) (tb : Nat) (tx : Nat → Int32) : Option Value → va_W → Prop := fun rr ww => (∃ (z : Int32) (u2 : Int32) (l2 : Int32) (k2 : Int32) (r2 : Nat) (b2 : Nat), rr = some (.int z) ∧ ww = [(t0, .inr (2, [.int (nI tf), .int u2, .int l2, .ref t1, .int (nI te), .int k2, .int (nI r2), .int (nI b2)])), (t1, .inl (T 3, 900, .inl tx))] ∧ (u2 = 0 → tu = 0) ∧ (r2 ≤ b2 ∧ b2 ≤ te))
set_option maxHeartbeats 4000000 in
set_option maxRecDepth 100000 in
theorem rd_takeOption (l : Launch) (D : va_G) (T : Nat → ClassId) (si : Nat) (t0 : Nat) (lo : Int32) (hi : Int32) (wo : Int32) (tf : Nat) (tu : Int32) (tl : Int32) (t1 : Nat) (te : Nat) (tk : Int32) (tr : Nat) (tb : Nat) (tx : Nat → Int32) (h_e : te ≤ 900) (h_rb : tr ≤ tb ∧ tb ≤ te) (h_i : si < 9) : Ct l yX2_takeOption cX2_takeOption 5 (some .int) 5 0 0 D T [.ref t0, .ref (D.2 9 si), .int lo, .int hi, .int wo] [(t0, .inr (2, [.int (nI tf), .int tu, .int tl, .ref t1, .int (nI te), .int tk, .int (nI tr), .int (nI tb)])), (t1, .inl (T 3, 900, .inl tx))] (q_rd_takeOption T si t0 lo hi wo tf tu tl t1 te tk tr tb tx) := by
  refine Ct.of (cc := cX2_takeOption) (maxL := 5) (ret := (some .int)) (by decide) (Nat.le_of_ble_eq_true rfl) ?_
  intro p e s m args below meth c A ls hC hnm V hl
  obtain ⟨hx, hb, hr, hml, hown, hts, hlocks⟩ := id hC
  generalize hH : s.heap = H at V ⊢
  clear hH
  have hl : lv_has ls 5 [(0, .ref t0), (1, .ref (D.2 9 si)), (2, .int lo), (3, .int hi), (4, .int wo)] := hl
  generalize hlo : ([] : List Loc) = locs at V ⊢
  clear hlo
  refine lv_aload_n hx hb dX2_takeOption_0 rfl (lv_at hl 0 rfl) ?_
  refine g_get hC V (ci := 2) uwX2 0 rfl rfl 1 (by decide) w_130 rfl rfl dX2_takeOption_1 ?_
  refine lv_if_ne (tgt := 15) hx hb dX2_takeOption_4 (by decide) (fun c_1 => ?_) (fun c_1 => ?_)
  · skip
    refine lv_iload hx hb dX2_takeOption_15 (lv_at hl 4 rfl) ?_
    exact g_iret (Qr := (q_rd_takeOption T si t0 lo hi wo tf tu tl t1 te tk tr tb tx)) hC V ⟨(Nat.le_of_ble_eq_true rfl), (Nat.le_of_ble_eq_true rfl)⟩ ⟨wo, tu, tl, tk, tr, tb, rfl, rfl, id, (by omega)⟩ dX2_takeOption_17
  · skip
    refine lv_aload_n hx hb dX2_takeOption_7 rfl (lv_at hl 0 rfl) ?_
    refine lv_aload_n hx hb dX2_takeOption_8 rfl (lv_at hl 1 rfl) ?_
    refine g_callV (wr := []) (nA := 1) hC V hl.1 (rd_isWord l D T si t0 tf tu tl t1 te tk tr tb tx (by first | assumption | omega) (by first | assumption | omega) (by first | assumption | omega)) w_322 w_324 w_s3 w_4 w_325 (by decide +kernel) rfl ⟨(Nat.le_of_ble_eq_true rfl), (Nat.le_of_ble_eq_true rfl)⟩ 0 (ci := 2) rfl rfl [0, 1] [] rfl rfl rfl rfl (by decide) (Nat.le_of_ble_eq_true rfl) dX2_takeOption_9 ⟨(Nat.le_of_ble_eq_true rfl), (Nat.le_of_ble_eq_true rfl)⟩ rfl (fun r w1 H locs hQ V => ?_)
    rcases hQ with ⟨rfl, rfl⟩ | ⟨rfl, rfl⟩
    · have V : gW D T A s [(t0, .inr (2, [.int (nI tf), .int tu, .int tl, .ref t1, .int (nI te), .int tk, .int (nI tr), .int (nI tb)])), (t1, .inl (T 3, 900, .inl tx))] H locs := V
      show W p l e _ s m args below meth c H locs _ _ _ (F0 m 12 ls [.int (nI 1)])
      refine lv_if_ne (tgt := 18) hx hb dX2_takeOption_12 (by decide) (fun _ => ?_) (fun c => absurd (show (nI 1) = 0 from c) (by decide +kernel))
      refine lv_aload_n hx hb dX2_takeOption_18 rfl (lv_at hl 0 rfl) ?_
      refine g_callV (wr := []) (nA := 0) hC V hl.1 (rd_next l D T t0 tf tu tl t1 te tk (nI tr) tb tx (by first | assumption | omega) (by first | assumption | omega)) w_309 w_311 w_s0 w_4 w_312 (by decide +kernel) rfl ⟨(Nat.le_of_ble_eq_true rfl), (Nat.le_of_ble_eq_true rfl)⟩ 0 (ci := 2) rfl rfl [0, 1] [] rfl rfl rfl rfl (by decide) (Nat.le_of_ble_eq_true rfl) dX2_takeOption_19 ⟨(Nat.le_of_ble_eq_true rfl), (Nat.le_of_ble_eq_true rfl)⟩ rfl (fun r w1 H locs hQ V => ?_)
      obtain ⟨u2_2, l2_3, k2_4, r2_5, b2_6, rfl, rfl, f_7, f_8⟩ := hQ
      have V : gW D T A s [(t0, .inr (2, [.int (nI tf), .int u2_2, .int l2_3, .ref t1, .int (nI te), .int k2_4, .int (nI r2_5), .int (nI b2_6)])), (t1, .inl (T 3, 900, .inl tx))] H locs := V
      show W p l e _ s m args below meth c H locs _ _ _ (F0 m 22 ls [])
      refine lv_aload_n hx hb dX2_takeOption_22 rfl (lv_at hl 0 rfl) ?_
      refine lv_iload_n hx hb dX2_takeOption_23 rfl (lv_at hl 2 rfl) ?_
      refine lv_iload_n hx hb dX2_takeOption_24 rfl (lv_at hl 3 rfl) ?_
      refine g_callV (wr := []) (nA := 2) hC V hl.1 (rd_takeNumber l D T t0 lo hi tf u2_2 l2_3 t1 te k2_4 r2_5 b2_6 tx (by first | assumption | omega) (by first | assumption | omega)) w_378 w_380 w_s5 w_4 w_381 (by decide +kernel) rfl ⟨(Nat.le_of_ble_eq_true rfl), (Nat.le_of_ble_eq_true rfl)⟩ 0 (ci := 2) rfl rfl [0, 1] [] rfl rfl rfl rfl (by decide) (Nat.le_of_ble_eq_true rfl) dX2_takeOption_25 ⟨(Nat.le_of_ble_eq_true rfl), (Nat.le_of_ble_eq_true rfl)⟩ rfl (fun r w1 H locs hQ V => ?_)
      obtain ⟨z_9, u2_10, l2_11, k2_12, r2_13, b2_14, rfl, rfl, f_15, f_16, f_17⟩ := hQ
      have V : gW D T A s [(t0, .inr (2, [.int (nI tf), .int u2_10, .int l2_11, .ref t1, .int (nI te), .int k2_12, .int (nI r2_13), .int (nI b2_14)])), (t1, .inl (T 3, 900, .inl tx))] H locs := V
      show W p l e _ s m args below meth c H locs _ _ _ (F0 m 28 ls [.int z_9])
      exact g_iret (Qr := (q_rd_takeOption T si t0 lo hi wo tf tu tl t1 te tk tr tb tx)) hC V ⟨(Nat.le_of_ble_eq_true rfl), (Nat.le_of_ble_eq_true rfl)⟩ ⟨z_9, u2_10, l2_11, k2_12, r2_13, b2_14, rfl, rfl, (fun _ => by assumption), (by omega)⟩ dX2_takeOption_28
    · have V : gW D T A s [(t0, .inr (2, [.int (nI tf), .int tu, .int tl, .ref t1, .int (nI te), .int tk, .int (nI tr), .int (nI tb)])), (t1, .inl (T 3, 900, .inl tx))] H locs := V
      show W p l e _ s m args below meth c H locs _ _ _ (F0 m 12 ls [.int (nI 0)])
      refine lv_if_ne (tgt := 18) hx hb dX2_takeOption_12 (by decide) (fun c => absurd (show (nI 0) = 0 by decide +kernel) c) (fun _ => ?_)
      refine lv_iload hx hb dX2_takeOption_15 (lv_at hl 4 rfl) ?_
      exact g_iret (Qr := (q_rd_takeOption T si t0 lo hi wo tf tu tl t1 te tk tr tb tx)) hC V ⟨(Nat.le_of_ble_eq_true rfl), (Nat.le_of_ble_eq_true rfl)⟩ ⟨wo, tu, tl, tk, tr, tb, rfl, rfl, id, (by omega)⟩ dX2_takeOption_17

def q_rd_endLine (T : Nat → ClassId) (t0 : Nat) (a0 : Nat) (tf : Nat) (tu : Int32) (tl : Int32) (t1 : Nat) (te : Nat) (tk : Int32) (tr : Nat) (tb : Nat) (tx : Nat → Int32) (an : Nat) (am : Int32) (al : Int32) (ao : Int32) (au : Int32) (a1 : Nat) (a2 : Nat) (a3 : Nat) (a4 : Nat) (a5 : Nat) (a6 : Nat) (a7 : Nat) (a8 : Nat) (a9 : Nat) (a10 : Nat) : Option Value → va_W → Prop := fun rr ww => (∃ (u2 : Int32) (l2 : Int32) (k2 : Int32) (r2 : Nat) (b2 : Nat) (ll : Int32), rr = none ∧ ww = [(t0, .inr (2, [.int (nI tf), .int u2, .int l2, .ref t1, .int (nI te), .int k2, .int (nI r2), .int (nI b2)])), (t1, .inl (T 3, 900, .inl tx)), (a0, .inr (5, [.int (nI an), .int am, .int ll, .int ao, .int au, .ref a1, .ref a2, .ref a3, .ref a4, .ref a5, .ref a6, .ref a7, .ref a8, .ref a9, .ref a10]))] ∧ (r2 ≤ b2 ∧ b2 ≤ te))
set_option maxHeartbeats 4000000 in
set_option maxRecDepth 100000 in
theorem rd_endLine (l : Launch) (D : va_G) (T : Nat → ClassId) (t0 : Nat) (a0 : Nat) (tf : Nat) (tu : Int32) (tl : Int32) (t1 : Nat) (te : Nat) (tk : Int32) (tr : Nat) (tb : Nat) (tx : Nat → Int32) (an : Nat) (am : Int32) (al : Int32) (ao : Int32) (au : Int32) (a1 : Nat) (a2 : Nat) (a3 : Nat) (a4 : Nat) (a5 : Nat) (a6 : Nat) (a7 : Nat) (a8 : Nat) (a9 : Nat) (a10 : Nat) (h_e : te ≤ 900) (h_rb : tr ≤ tb ∧ tb ≤ te) : Ct l yX2_endLine cX2_endLine 2 none 2 0 0 D T [.ref t0, .ref a0] [(t0, .inr (2, [.int (nI tf), .int tu, .int tl, .ref t1, .int (nI te), .int tk, .int (nI tr), .int (nI tb)])), (t1, .inl (T 3, 900, .inl tx)), (a0, .inr (5, [.int (nI an), .int am, .int al, .int ao, .int au, .ref a1, .ref a2, .ref a3, .ref a4, .ref a5, .ref a6, .ref a7, .ref a8, .ref a9, .ref a10]))] (q_rd_endLine T t0 a0 tf tu tl t1 te tk tr tb tx an am al ao au a1 a2 a3 a4 a5 a6 a7 a8 a9 a10) := by
  refine Ct.of (cc := cX2_endLine) (maxL := 2) (ret := none) (by decide) (Nat.le_of_ble_eq_true rfl) ?_
  intro p e s m args below meth c A ls hC hnm V hl
  obtain ⟨hx, hb, hr, hml, hown, hts, hlocks⟩ := id hC
  generalize hH : s.heap = H at V ⊢
  clear hH
  have hl : lv_has ls 2 [(0, .ref t0), (1, .ref a0)] := hl
  generalize hlo : ([] : List Loc) = locs at V ⊢
  clear hlo
  refine lv_aload_n hx hb dX2_endLine_0 rfl (lv_at hl 0 rfl) ?_
  refine g_get hC V (ci := 2) uwX2 0 rfl rfl 5 (by decide) w_136 rfl rfl dX2_endLine_1 ?_
  refine lv_iconst (v := (nI 3)) hx hb dX2_endLine_4 (by decide +kernel) ?_
  refine lv_icmp_eq (tgt := 13) hx hb dX2_endLine_5 (by decide) (fun c_1 => ?_) (fun c_1 => ?_)
  · skip
    refine lv_aload_n hx hb dX2_endLine_13 rfl (lv_at hl 0 rfl) ?_
    refine g_get hC V (ci := 2) uwX2 0 rfl rfl 1 (by decide) w_130 rfl rfl dX2_endLine_14 ?_
    refine lv_if_ne (tgt := 34) hx hb dX2_endLine_17 (by decide) (fun c_2 => ?_) (fun c_2 => ?_)
    · skip
      exact g_vret (Qr := (q_rd_endLine T t0 a0 tf tu tl t1 te tk tr tb tx an am al ao au a1 a2 a3 a4 a5 a6 a7 a8 a9 a10)) hC V ⟨(Nat.le_of_ble_eq_true rfl), (Nat.le_of_ble_eq_true rfl)⟩ ⟨tu, tl, tk, tr, tb, al, rfl, rfl, (by first | assumption | omega)⟩ dX2_endLine_34
    · skip
      refine lv_aload_n hx hb dX2_endLine_20 rfl (lv_at hl 1 rfl) ?_
      refine lv_dup hx hb dX2_endLine_21 rfl ?_
      refine g_get hC V (ci := 5) uwX5 2 rfl rfl 2 (by decide) w_44 rfl rfl dX2_endLine_22 ?_
      refine lv_iconst (v := (nI 1)) hx hb dX2_endLine_25 (by decide +kernel) ?_
      refine lv_iadd hx hb dX2_endLine_26 ?_
      refine g_put hC V (ci := 5) uwX5 tyX5 tyX5_ok nmX5 2 rfl rfl 2 (by decide) w_44 rfl rfl rfl rfl (Nat.le_of_ble_eq_true rfl) (ws' := [(t0, .inr (2, [.int (nI tf), .int tu, .int tl, .ref t1, .int (nI te), .int tk, .int (nI tr), .int (nI tb)])), (t1, .inl (T 3, 900, .inl tx)), (a0, .inr (5, [.int (nI an), .int am, .int (al + (nI 1)), .int ao, .int au, .ref a1, .ref a2, .ref a3, .ref a4, .ref a5, .ref a6, .ref a7, .ref a8, .ref a9, .ref a10]))]) rfl dX2_endLine_27 (fun H locs V => ?_)
      refine lv_aload_n hx hb dX2_endLine_30 rfl (lv_at hl 0 rfl) ?_
      refine g_callV (wr := [(a0, .inr (5, [.int (nI an), .int am, .int (al + (nI 1)), .int ao, .int au, .ref a1, .ref a2, .ref a3, .ref a4, .ref a5, .ref a6, .ref a7, .ref a8, .ref a9, .ref a10]))]) (nA := 0) hC V hl.1 (rd_next l D T t0 tf tu tl t1 te tk (nI tr) tb tx (by first | assumption | omega) (by first | assumption | omega)) w_309 w_311 w_s0 w_4 w_312 (by decide +kernel) rfl ⟨(Nat.le_of_ble_eq_true rfl), (Nat.le_of_ble_eq_true rfl)⟩ 0 (ci := 2) rfl rfl [0, 1] [2] rfl rfl rfl rfl (by decide) (Nat.le_of_ble_eq_true rfl) dX2_endLine_31 ⟨(Nat.le_of_ble_eq_true rfl), (Nat.le_of_ble_eq_true rfl)⟩ rfl (fun r w1 H locs hQ V => ?_)
      obtain ⟨u2_3, l2_4, k2_5, r2_6, b2_7, rfl, rfl, f_8, f_9⟩ := hQ
      have V : gW D T A s [(a0, .inr (5, [.int (nI an), .int am, .int (al + (nI 1)), .int ao, .int au, .ref a1, .ref a2, .ref a3, .ref a4, .ref a5, .ref a6, .ref a7, .ref a8, .ref a9, .ref a10])), (t0, .inr (2, [.int (nI tf), .int u2_3, .int l2_4, .ref t1, .int (nI te), .int k2_5, .int (nI r2_6), .int (nI b2_7)])), (t1, .inl (T 3, 900, .inl tx))] H locs := V
      show W p l e _ s m args below meth c H locs _ _ _ (F0 m 34 ls [])
      have V := V.sub (ws' := [(t0, .inr (2, [.int (nI tf), .int u2_3, .int l2_4, .ref t1, .int (nI te), .int k2_5, .int (nI r2_6), .int (nI b2_7)])), (t1, .inl (T 3, 900, .inl tx)), (a0, .inr (5, [.int (nI an), .int am, .int (al + (nI 1)), .int ao, .int au, .ref a1, .ref a2, .ref a3, .ref a4, .ref a5, .ref a6, .ref a7, .ref a8, .ref a9, .ref a10]))]) [1, 2, 0] rfl rfl
      exact g_vret (Qr := (q_rd_endLine T t0 a0 tf tu tl t1 te tk tr tb tx an am al ao au a1 a2 a3 a4 a5 a6 a7 a8 a9 a10)) hC V ⟨(Nat.le_of_ble_eq_true rfl), (Nat.le_of_ble_eq_true rfl)⟩ ⟨u2_3, l2_4, k2_5, r2_6, b2_7, (al + (nI 1)), rfl, rfl, (by first | assumption | omega)⟩ dX2_endLine_34
  · skip
    refine lv_aload_n hx hb dX2_endLine_8 rfl (lv_at hl 0 rfl) ?_
    refine lv_iconst (v := (nI 2)) hx hb dX2_endLine_9 (by decide +kernel) ?_
    refine g_callV (wr := [(t1, .inl (T 3, 900, .inl tx)), (a0, .inr (5, [.int (nI an), .int am, .int al, .int ao, .int au, .ref a1, .ref a2, .ref a3, .ref a4, .ref a5, .ref a6, .ref a7, .ref a8, .ref a9, .ref a10]))]) (nA := 1) hC V hl.1 (rd_fail l D T t0 (nI 2) tf tu tl t1 te tk tr tb (by decide +kernel)) w_317 w_319 w_s2 w_4 w_320 (by decide +kernel) rfl ⟨(Nat.le_of_ble_eq_true rfl), (Nat.le_of_ble_eq_true rfl)⟩ 0 (ci := 2) rfl rfl [0] [1, 2] rfl rfl rfl rfl (by decide) (Nat.le_of_ble_eq_true rfl) dX2_endLine_10 ⟨(Nat.le_of_ble_eq_true rfl), (Nat.le_of_ble_eq_true rfl)⟩ rfl (fun r w1 H locs hQ V => ?_)
    obtain ⟨u2_10, l2_11, rfl, rfl, f_12⟩ := hQ
    have V : gW D T A s [(t1, .inl (T 3, 900, .inl tx)), (a0, .inr (5, [.int (nI an), .int am, .int al, .int ao, .int au, .ref a1, .ref a2, .ref a3, .ref a4, .ref a5, .ref a6, .ref a7, .ref a8, .ref a9, .ref a10])), (t0, .inr (2, [.int (nI tf), .int u2_10, .int l2_11, .ref t1, .int (nI te), .int tk, .int (nI tr), .int (nI tb)]))] H locs := V
    show W p l e _ s m args below meth c H locs _ _ _ (F0 m 13 ls [])
    refine lv_aload_n hx hb dX2_endLine_13 rfl (lv_at hl 0 rfl) ?_
    refine g_get hC V (ci := 2) uwX2 2 rfl rfl 1 (by decide) w_130 rfl rfl dX2_endLine_14 ?_
    refine lv_if_ne (tgt := 34) hx hb dX2_endLine_17 (by decide) (fun c_13 => ?_) (fun c_13 => ?_)
    · skip
      have V := V.sub (ws' := [(t0, .inr (2, [.int (nI tf), .int u2_10, .int l2_11, .ref t1, .int (nI te), .int tk, .int (nI tr), .int (nI tb)])), (t1, .inl (T 3, 900, .inl tx)), (a0, .inr (5, [.int (nI an), .int am, .int al, .int ao, .int au, .ref a1, .ref a2, .ref a3, .ref a4, .ref a5, .ref a6, .ref a7, .ref a8, .ref a9, .ref a10]))]) [2, 0, 1] rfl rfl
      exact g_vret (Qr := (q_rd_endLine T t0 a0 tf tu tl t1 te tk tr tb tx an am al ao au a1 a2 a3 a4 a5 a6 a7 a8 a9 a10)) hC V ⟨(Nat.le_of_ble_eq_true rfl), (Nat.le_of_ble_eq_true rfl)⟩ ⟨u2_10, l2_11, tk, tr, tb, al, rfl, rfl, (by first | assumption | omega)⟩ dX2_endLine_34
    · skip
      refine lv_aload_n hx hb dX2_endLine_20 rfl (lv_at hl 1 rfl) ?_
      refine lv_dup hx hb dX2_endLine_21 rfl ?_
      refine g_get hC V (ci := 5) uwX5 1 rfl rfl 2 (by decide) w_44 rfl rfl dX2_endLine_22 ?_
      refine lv_iconst (v := (nI 1)) hx hb dX2_endLine_25 (by decide +kernel) ?_
      refine lv_iadd hx hb dX2_endLine_26 ?_
      refine g_put hC V (ci := 5) uwX5 tyX5 tyX5_ok nmX5 1 rfl rfl 2 (by decide) w_44 rfl rfl rfl rfl (Nat.le_of_ble_eq_true rfl) (ws' := [(t1, .inl (T 3, 900, .inl tx)), (a0, .inr (5, [.int (nI an), .int am, .int (al + (nI 1)), .int ao, .int au, .ref a1, .ref a2, .ref a3, .ref a4, .ref a5, .ref a6, .ref a7, .ref a8, .ref a9, .ref a10])), (t0, .inr (2, [.int (nI tf), .int u2_10, .int l2_11, .ref t1, .int (nI te), .int tk, .int (nI tr), .int (nI tb)]))]) rfl dX2_endLine_27 (fun H locs V => ?_)
      refine lv_aload_n hx hb dX2_endLine_30 rfl (lv_at hl 0 rfl) ?_
      refine g_callV (wr := [(a0, .inr (5, [.int (nI an), .int am, .int (al + (nI 1)), .int ao, .int au, .ref a1, .ref a2, .ref a3, .ref a4, .ref a5, .ref a6, .ref a7, .ref a8, .ref a9, .ref a10]))]) (nA := 0) hC V hl.1 (rd_next l D T t0 tf u2_10 l2_11 t1 te tk (nI tr) tb tx (by first | assumption | omega) (by first | assumption | omega)) w_309 w_311 w_s0 w_4 w_312 (by decide +kernel) rfl ⟨(Nat.le_of_ble_eq_true rfl), (Nat.le_of_ble_eq_true rfl)⟩ 2 (ci := 2) rfl rfl [2, 0] [1] rfl rfl rfl rfl (by decide) (Nat.le_of_ble_eq_true rfl) dX2_endLine_31 ⟨(Nat.le_of_ble_eq_true rfl), (Nat.le_of_ble_eq_true rfl)⟩ rfl (fun r w1 H locs hQ V => ?_)
      obtain ⟨u2_14, l2_15, k2_16, r2_17, b2_18, rfl, rfl, f_19, f_20⟩ := hQ
      have V : gW D T A s [(a0, .inr (5, [.int (nI an), .int am, .int (al + (nI 1)), .int ao, .int au, .ref a1, .ref a2, .ref a3, .ref a4, .ref a5, .ref a6, .ref a7, .ref a8, .ref a9, .ref a10])), (t0, .inr (2, [.int (nI tf), .int u2_14, .int l2_15, .ref t1, .int (nI te), .int k2_16, .int (nI r2_17), .int (nI b2_18)])), (t1, .inl (T 3, 900, .inl tx))] H locs := V
      show W p l e _ s m args below meth c H locs _ _ _ (F0 m 34 ls [])
      have V := V.sub (ws' := [(t0, .inr (2, [.int (nI tf), .int u2_14, .int l2_15, .ref t1, .int (nI te), .int k2_16, .int (nI r2_17), .int (nI b2_18)])), (t1, .inl (T 3, 900, .inl tx)), (a0, .inr (5, [.int (nI an), .int am, .int (al + (nI 1)), .int ao, .int au, .ref a1, .ref a2, .ref a3, .ref a4, .ref a5, .ref a6, .ref a7, .ref a8, .ref a9, .ref a10]))]) [1, 2, 0] rfl rfl
      exact g_vret (Qr := (q_rd_endLine T t0 a0 tf tu tl t1 te tk tr tb tx an am al ao au a1 a2 a3 a4 a5 a6 a7 a8 a9 a10)) hC V ⟨(Nat.le_of_ble_eq_true rfl), (Nat.le_of_ble_eq_true rfl)⟩ ⟨u2_14, l2_15, k2_16, r2_17, b2_18, (al + (nI 1)), rfl, rfl, (by first | assumption | omega)⟩ dX2_endLine_34

def q_rd_readSmith (T : Nat → ClassId) (t0 : Nat) (a0 : Nat) (tf : Nat) (tu : Int32) (tl : Int32) (t1 : Nat) (te : Nat) (tk : Int32) (tr : Nat) (tb : Nat) (tx : Nat → Int32) (an : Nat) (am : Int32) (al : Int32) (ao : Int32) (au : Int32) (a1 : Nat) (a2 : Nat) (a3 : Nat) (a4 : Nat) (a5 : Nat) (a6 : Nat) (a7 : Nat) (a8 : Nat) (a9 : Nat) (a10 : Nat) (af1 : Nat → Int32) (af2 : Nat → Int32) (af3 : Nat → Int32) (af4 : Nat → Int32) (af5 : Nat → Int32) (af6 : Nat → Int32) (af7 : Nat → Int32) (af8 : Nat → Int32) : Option Value → va_W → Prop := fun rr ww => (∃ (u2 : Int32) (l2 : Int32) (k2 : Int32) (r2 : Nat) (b2 : Nat) (n2 : Nat) (g1 : Nat → Int32) (g2 : Nat → Int32) (g3 : Nat → Int32) (g4 : Nat → Int32) (g5 : Nat → Int32) (g6 : Nat → Int32) (g7 : Nat → Int32) (g8 : Nat → Int32), rr = none ∧ ww = [(t0, .inr (2, [.int (nI tf), .int u2, .int l2, .ref t1, .int (nI te), .int k2, .int (nI r2), .int (nI b2)])), (t1, .inl (T 3, 900, .inl tx)), (a0, .inr (5, [.int (nI n2), .int am, .int al, .int ao, .int au, .ref a1, .ref a2, .ref a3, .ref a4, .ref a5, .ref a6, .ref a7, .ref a8, .ref a9, .ref a10])), (a1, .inl (T 0, 10, .inl g1)), (a2, .inl (T 0, 10, .inl g2)), (a3, .inl (T 0, 10, .inl g3)), (a4, .inl (T 0, 10, .inl g4)), (a5, .inl (T 0, 10, .inl g5)), (a6, .inl (T 0, 10, .inl g6)), (a7, .inl (T 0, 10, .inl g7)), (a8, .inl (T 0, 10, .inl g8))] ∧ (r2 ≤ b2 ∧ b2 ≤ te) ∧ an ≤ n2 ∧ n2 ≤ 10)
set_option maxHeartbeats 4000000 in
set_option maxRecDepth 100000 in
theorem rd_readSmith (l : Launch) (D : va_G) (T : Nat → ClassId) (t0 : Nat) (a0 : Nat) (tf : Nat) (tu : Int32) (tl : Int32) (t1 : Nat) (te : Nat) (tk : Int32) (tr : Nat) (tb : Nat) (tx : Nat → Int32) (an : Nat) (am : Int32) (al : Int32) (ao : Int32) (au : Int32) (a1 : Nat) (a2 : Nat) (a3 : Nat) (a4 : Nat) (a5 : Nat) (a6 : Nat) (a7 : Nat) (a8 : Nat) (a9 : Nat) (a10 : Nat) (af1 : Nat → Int32) (af2 : Nat → Int32) (af3 : Nat → Int32) (af4 : Nat → Int32) (af5 : Nat → Int32) (af6 : Nat → Int32) (af7 : Nat → Int32) (af8 : Nat → Int32) (h_e : te ≤ 900) (h_rb : tr ≤ tb ∧ tb ≤ te) (h_n : an ≤ 10) : Ct l yX2_readSmith cX2_readSmith 3 none 6 0 0 D T [.ref t0, .ref a0] [(t0, .inr (2, [.int (nI tf), .int tu, .int tl, .ref t1, .int (nI te), .int tk, .int (nI tr), .int (nI tb)])), (t1, .inl (T 3, 900, .inl tx)), (a0, .inr (5, [.int (nI an), .int am, .int al, .int ao, .int au, .ref a1, .ref a2, .ref a3, .ref a4, .ref a5, .ref a6, .ref a7, .ref a8, .ref a9, .ref a10])), (a1, .inl (T 0, 10, .inl af1)), (a2, .inl (T 0, 10, .inl af2)), (a3, .inl (T 0, 10, .inl af3)), (a4, .inl (T 0, 10, .inl af4)), (a5, .inl (T 0, 10, .inl af5)), (a6, .inl (T 0, 10, .inl af6)), (a7, .inl (T 0, 10, .inl af7)), (a8, .inl (T 0, 10, .inl af8))] (q_rd_readSmith T t0 a0 tf tu tl t1 te tk tr tb tx an am al ao au a1 a2 a3 a4 a5 a6 a7 a8 a9 a10 af1 af2 af3 af4 af5 af6 af7 af8) := by
  refine Ct.of (cc := cX2_readSmith) (maxL := 3) (ret := none) (by decide) (Nat.le_of_ble_eq_true rfl) ?_
  intro p e s m args below meth c A ls hC hnm V hl
  obtain ⟨hx, hb, hr, hml, hown, hts, hlocks⟩ := id hC
  generalize hH : s.heap = H at V ⊢
  clear hH
  have hl : lv_has ls 3 [(0, .ref t0), (1, .ref a0)] := hl
  generalize hlo : ([] : List Loc) = locs at V ⊢
  clear hlo
  refine lv_aload_n hx hb dX2_readSmith_0 rfl (lv_at hl 1 rfl) ?_
  refine g_get hC V (ci := 5) uwX5 2 rfl rfl 0 (by decide) w_36 rfl rfl dX2_readSmith_1 ?_
  refine lv_istore_n (lv' := [(2, .int (nI an)), (0, .ref t0), (1, .ref a0)]) hx hb dX2_readSmith_4 rfl hl (by decide) rfl (fun ls hl => ?_)
  refine lv_iload_n hx hb dX2_readSmith_5 rfl (lv_at hl 0 rfl) ?_
  refine lv_bipush (v := (nI 10)) hx hb dX2_readSmith_6 (by decide +kernel) ?_
  refine lv_icmp_lt (tgt := 17) hx hb dX2_readSmith_8 (by decide) (fun c_1 => ?_) (fun c_1 => ?_)
  · skip
    have c_1 := b_lt (by omega) (by omega) c_1
    refine lv_aload_n hx hb dX2_readSmith_17 rfl (lv_at hl 1 rfl) ?_
    refine g_callV (wr := [(a0, .inr (5, [.int (nI an), .int am, .int al, .int ao, .int au, .ref a1, .ref a2, .ref a3, .ref a4, .ref a5, .ref a6, .ref a7, .ref a8, .ref a9, .ref a10])), (a1, .inl (T 0, 10, .inl af1)), (a2, .inl (T 0, 10, .inl af2)), (a3, .inl (T 0, 10, .inl af3)), (a4, .inl (T 0, 10, .inl af4)), (a5, .inl (T 0, 10, .inl af5)), (a6, .inl (T 0, 10, .inl af6)), (a7, .inl (T 0, 10, .inl af7)), (a8, .inl (T 0, 10, .inl af8))]) (nA := 0) hC V hl.1 (rd_next l D T t0 tf tu tl t1 te tk (nI tr) tb tx (by first | assumption | omega) (by first | assumption | omega)) w_309 w_311 w_s0 w_4 w_312 (by decide +kernel) rfl ⟨(Nat.le_of_ble_eq_true rfl), (Nat.le_of_ble_eq_true rfl)⟩ 0 (ci := 2) rfl rfl [0, 1] [2, 3, 4, 5, 6, 7, 8, 9, 10] rfl rfl rfl rfl (by decide) (Nat.le_of_ble_eq_true rfl) dX2_readSmith_18 ⟨(Nat.le_of_ble_eq_true rfl), (Nat.le_of_ble_eq_true rfl)⟩ rfl (fun r w1 H locs hQ V => ?_)
    obtain ⟨u2_2, l2_3, k2_4, r2_5, b2_6, rfl, rfl, f_7, f_8⟩ := hQ
    have V : gW D T A s [(a0, .inr (5, [.int (nI an), .int am, .int al, .int ao, .int au, .ref a1, .ref a2, .ref a3, .ref a4, .ref a5, .ref a6, .ref a7, .ref a8, .ref a9, .ref a10])), (a1, .inl (T 0, 10, .inl af1)), (a2, .inl (T 0, 10, .inl af2)), (a3, .inl (T 0, 10, .inl af3)), (a4, .inl (T 0, 10, .inl af4)), (a5, .inl (T 0, 10, .inl af5)), (a6, .inl (T 0, 10, .inl af6)), (a7, .inl (T 0, 10, .inl af7)), (a8, .inl (T 0, 10, .inl af8)), (t0, .inr (2, [.int (nI tf), .int u2_2, .int l2_3, .ref t1, .int (nI te), .int k2_4, .int (nI r2_5), .int (nI b2_6)])), (t1, .inl (T 3, 900, .inl tx))] H locs := V
    show W p l e _ s m args below meth c H locs _ _ _ (F0 m 21 ls [])
    refine lv_aload_n hx hb dX2_readSmith_21 rfl (lv_at hl 2 rfl) ?_
    refine g_get hC V (ci := 5) uwX5 0 rfl rfl 5 (by decide) w_53 rfl rfl dX2_readSmith_22 ?_
    refine lv_iload_n hx hb dX2_readSmith_25 rfl (lv_at hl 0 rfl) ?_
    refine lv_aload_n hx hb dX2_readSmith_26 rfl (lv_at hl 1 rfl) ?_
    refine lv_iconst (v := (nI 0)) hx hb dX2_readSmith_27 (by decide +kernel) ?_
    refine lv_bipush (v := (nI 60)) hx hb dX2_readSmith_28 (by decide +kernel) ?_
    refine g_callV (wr := [(a0, .inr (5, [.int (nI an), .int am, .int al, .int ao, .int au, .ref a1, .ref a2, .ref a3, .ref a4, .ref a5, .ref a6, .ref a7, .ref a8, .ref a9, .ref a10])), (a1, .inl (T 0, 10, .inl af1)), (a2, .inl (T 0, 10, .inl af2)), (a3, .inl (T 0, 10, .inl af3)), (a4, .inl (T 0, 10, .inl af4)), (a5, .inl (T 0, 10, .inl af5)), (a6, .inl (T 0, 10, .inl af6)), (a7, .inl (T 0, 10, .inl af7)), (a8, .inl (T 0, 10, .inl af8))]) (nA := 2) hC V hl.1 (rd_takeNumber l D T t0 (nI 0) (nI 60) tf u2_2 l2_3 t1 te k2_4 r2_5 b2_6 tx (by first | assumption | omega) (by first | assumption | omega)) w_378 w_380 w_s5 w_4 w_381 (by decide +kernel) rfl ⟨(Nat.le_of_ble_eq_true rfl), (Nat.le_of_ble_eq_true rfl)⟩ 9 (ci := 2) rfl rfl [9, 10] [0, 1, 2, 3, 4, 5, 6, 7, 8] rfl rfl rfl rfl (by decide) (Nat.le_of_ble_eq_true rfl) dX2_readSmith_30 ⟨(Nat.le_of_ble_eq_true rfl), (Nat.le_of_ble_eq_true rfl)⟩ rfl (fun r w1 H locs hQ V => ?_)
    obtain ⟨z_9, u2_10, l2_11, k2_12, r2_13, b2_14, rfl, rfl, f_15, f_16, f_17⟩ := hQ
    have V : gW D T A s [(a0, .inr (5, [.int (nI an), .int am, .int al, .int ao, .int au, .ref a1, .ref a2, .ref a3, .ref a4, .ref a5, .ref a6, .ref a7, .ref a8, .ref a9, .ref a10])), (a1, .inl (T 0, 10, .inl af1)), (a2, .inl (T 0, 10, .inl af2)), (a3, .inl (T 0, 10, .inl af3)), (a4, .inl (T 0, 10, .inl af4)), (a5, .inl (T 0, 10, .inl af5)), (a6, .inl (T 0, 10, .inl af6)), (a7, .inl (T 0, 10, .inl af7)), (a8, .inl (T 0, 10, .inl af8)), (t0, .inr (2, [.int (nI tf), .int u2_10, .int l2_11, .ref t1, .int (nI te), .int k2_12, .int (nI r2_13), .int (nI b2_14)])), (t1, .inl (T 3, 900, .inl tx))] H locs := V
    show W p l e _ s m args below meth c H locs _ _ _ (F0 m 33 ls [.int z_9, .int (nI an), .ref a1])
    refine g_iast hC V 1 rfl (vp_in_nI (by omega) (by omega)) (f' := (upd af1 an z_9)) (by rw [nI_clamp (by omega)]) (ws' := [(a0, .inr (5, [.int (nI an), .int am, .int al, .int ao, .int au, .ref a1, .ref a2, .ref a3, .ref a4, .ref a5, .ref a6, .ref a7, .ref a8, .ref a9, .ref a10])), (a1, .inl (T 0, 10, .inl (upd af1 an z_9))), (a2, .inl (T 0, 10, .inl af2)), (a3, .inl (T 0, 10, .inl af3)), (a4, .inl (T 0, 10, .inl af4)), (a5, .inl (T 0, 10, .inl af5)), (a6, .inl (T 0, 10, .inl af6)), (a7, .inl (T 0, 10, .inl af7)), (a8, .inl (T 0, 10, .inl af8)), (t0, .inr (2, [.int (nI tf), .int u2_10, .int l2_11, .ref t1, .int (nI te), .int k2_12, .int (nI r2_13), .int (nI b2_14)])), (t1, .inl (T 3, 900, .inl tx))]) rfl dX2_readSmith_33 (fun H locs V => ?_)
    refine lv_aload_n hx hb dX2_readSmith_34 rfl (lv_at hl 2 rfl) ?_
    refine g_get hC V (ci := 5) uwX5 0 rfl rfl 6 (by decide) w_59 rfl rfl dX2_readSmith_35 ?_
    refine lv_iload_n hx hb dX2_readSmith_38 rfl (lv_at hl 0 rfl) ?_
    refine lv_aload_n hx hb dX2_readSmith_39 rfl (lv_at hl 1 rfl) ?_
    refine g_ldcS hC V 1 rfl dX2_readSmith_40 ?_
    refine lv_iconst (v := (nI 0)) hx hb dX2_readSmith_42 (by decide +kernel) ?_
    refine lv_bipush (v := (nI 30)) hx hb dX2_readSmith_43 (by decide +kernel) ?_
    refine lv_iconst (v := (nI 5)) hx hb dX2_readSmith_45 (by decide +kernel) ?_
    refine g_callV (wr := [(a0, .inr (5, [.int (nI an), .int am, .int al, .int ao, .int au, .ref a1, .ref a2, .ref a3, .ref a4, .ref a5, .ref a6, .ref a7, .ref a8, .ref a9, .ref a10])), (a1, .inl (T 0, 10, .inl (upd af1 an z_9))), (a2, .inl (T 0, 10, .inl af2)), (a3, .inl (T 0, 10, .inl af3)), (a4, .inl (T 0, 10, .inl af4)), (a5, .inl (T 0, 10, .inl af5)), (a6, .inl (T 0, 10, .inl af6)), (a7, .inl (T 0, 10, .inl af7)), (a8, .inl (T 0, 10, .inl af8))]) (nA := 4) hC V hl.1 (rd_takeOption l D T 1 t0 (nI 0) (nI 30) (nI 5) tf u2_10 l2_11 t1 te k2_12 r2_13 b2_14 tx (by first | assumption | omega) (by first | assumption | omega) (by first | assumption | omega)) w_384 w_386 w_s6 w_4 w_387 (by decide +kernel) rfl ⟨(Nat.le_of_ble_eq_true rfl), (Nat.le_of_ble_eq_true rfl)⟩ 9 (ci := 2) rfl rfl [9, 10] [0, 1, 2, 3, 4, 5, 6, 7, 8] rfl rfl rfl rfl (by decide) (Nat.le_of_ble_eq_true rfl) dX2_readSmith_46 ⟨(Nat.le_of_ble_eq_true rfl), (Nat.le_of_ble_eq_true rfl)⟩ rfl (fun r w1 H locs hQ V => ?_)
    obtain ⟨z_18, u2_19, l2_20, k2_21, r2_22, b2_23, rfl, rfl, f_24, f_25⟩ := hQ
    have V : gW D T A s [(a0, .inr (5, [.int (nI an), .int am, .int al, .int ao, .int au, .ref a1, .ref a2, .ref a3, .ref a4, .ref a5, .ref a6, .ref a7, .ref a8, .ref a9, .ref a10])), (a1, .inl (T 0, 10, .inl (upd af1 an z_9))), (a2, .inl (T 0, 10, .inl af2)), (a3, .inl (T 0, 10, .inl af3)), (a4, .inl (T 0, 10, .inl af4)), (a5, .inl (T 0, 10, .inl af5)), (a6, .inl (T 0, 10, .inl af6)), (a7, .inl (T 0, 10, .inl af7)), (a8, .inl (T 0, 10, .inl af8)), (t0, .inr (2, [.int (nI tf), .int u2_19, .int l2_20, .ref t1, .int (nI te), .int k2_21, .int (nI r2_22), .int (nI b2_23)])), (t1, .inl (T 3, 900, .inl tx))] H locs := V
    show W p l e _ s m args below meth c H locs _ _ _ (F0 m 49 ls [.int z_18, .int (nI an), .ref a2])
    refine g_iast hC V 2 rfl (vp_in_nI (by omega) (by omega)) (f' := (upd af2 an z_18)) (by rw [nI_clamp (by omega)]) (ws' := [(a0, .inr (5, [.int (nI an), .int am, .int al, .int ao, .int au, .ref a1, .ref a2, .ref a3, .ref a4, .ref a5, .ref a6, .ref a7, .ref a8, .ref a9, .ref a10])), (a1, .inl (T 0, 10, .inl (upd af1 an z_9))), (a2, .inl (T 0, 10, .inl (upd af2 an z_18))), (a3, .inl (T 0, 10, .inl af3)), (a4, .inl (T 0, 10, .inl af4)), (a5, .inl (T 0, 10, .inl af5)), (a6, .inl (T 0, 10, .inl af6)), (a7, .inl (T 0, 10, .inl af7)), (a8, .inl (T 0, 10, .inl af8)), (t0, .inr (2, [.int (nI tf), .int u2_19, .int l2_20, .ref t1, .int (nI te), .int k2_21, .int (nI r2_22), .int (nI b2_23)])), (t1, .inl (T 3, 900, .inl tx))]) rfl dX2_readSmith_49 (fun H locs V => ?_)
    refine lv_aload_n hx hb dX2_readSmith_50 rfl (lv_at hl 2 rfl) ?_
    refine g_get hC V (ci := 5) uwX5 0 rfl rfl 7 (by decide) w_64 rfl rfl dX2_readSmith_51 ?_
    refine lv_iload_n hx hb dX2_readSmith_54 rfl (lv_at hl 0 rfl) ?_
    refine lv_aload_n hx hb dX2_readSmith_55 rfl (lv_at hl 1 rfl) ?_
    refine g_ldcS hC V 2 rfl dX2_readSmith_56 ?_
    refine lv_iconst (v := (nI 0)) hx hb dX2_readSmith_58 (by decide +kernel) ?_
    refine lv_sipush (v := (nI 200)) hx hb dX2_readSmith_59 (by decide +kernel) ?_
    refine lv_iconst (v := (nI 0)) hx hb dX2_readSmith_62 (by decide +kernel) ?_
    refine g_callV (wr := [(a0, .inr (5, [.int (nI an), .int am, .int al, .int ao, .int au, .ref a1, .ref a2, .ref a3, .ref a4, .ref a5, .ref a6, .ref a7, .ref a8, .ref a9, .ref a10])), (a1, .inl (T 0, 10, .inl (upd af1 an z_9))), (a2, .inl (T 0, 10, .inl (upd af2 an z_18))), (a3, .inl (T 0, 10, .inl af3)), (a4, .inl (T 0, 10, .inl af4)), (a5, .inl (T 0, 10, .inl af5)), (a6, .inl (T 0, 10, .inl af6)), (a7, .inl (T 0, 10, .inl af7)), (a8, .inl (T 0, 10, .inl af8))]) (nA := 4) hC V hl.1 (rd_takeOption l D T 2 t0 (nI 0) (nI 200) (nI 0) tf u2_19 l2_20 t1 te k2_21 r2_22 b2_23 tx (by first | assumption | omega) (by first | assumption | omega) (by first | assumption | omega)) w_384 w_386 w_s6 w_4 w_387 (by decide +kernel) rfl ⟨(Nat.le_of_ble_eq_true rfl), (Nat.le_of_ble_eq_true rfl)⟩ 9 (ci := 2) rfl rfl [9, 10] [0, 1, 2, 3, 4, 5, 6, 7, 8] rfl rfl rfl rfl (by decide) (Nat.le_of_ble_eq_true rfl) dX2_readSmith_63 ⟨(Nat.le_of_ble_eq_true rfl), (Nat.le_of_ble_eq_true rfl)⟩ rfl (fun r w1 H locs hQ V => ?_)
    obtain ⟨z_26, u2_27, l2_28, k2_29, r2_30, b2_31, rfl, rfl, f_32, f_33⟩ := hQ
    have V : gW D T A s [(a0, .inr (5, [.int (nI an), .int am, .int al, .int ao, .int au, .ref a1, .ref a2, .ref a3, .ref a4, .ref a5, .ref a6, .ref a7, .ref a8, .ref a9, .ref a10])), (a1, .inl (T 0, 10, .inl (upd af1 an z_9))), (a2, .inl (T 0, 10, .inl (upd af2 an z_18))), (a3, .inl (T 0, 10, .inl af3)), (a4, .inl (T 0, 10, .inl af4)), (a5, .inl (T 0, 10, .inl af5)), (a6, .inl (T 0, 10, .inl af6)), (a7, .inl (T 0, 10, .inl af7)), (a8, .inl (T 0, 10, .inl af8)), (t0, .inr (2, [.int (nI tf), .int u2_27, .int l2_28, .ref t1, .int (nI te), .int k2_29, .int (nI r2_30), .int (nI b2_31)])), (t1, .inl (T 3, 900, .inl tx))] H locs := V
    show W p l e _ s m args below meth c H locs _ _ _ (F0 m 66 ls [.int z_26, .int (nI an), .ref a3])
    refine g_iast hC V 3 rfl (vp_in_nI (by omega) (by omega)) (f' := (upd af3 an z_26)) (by rw [nI_clamp (by omega)]) (ws' := [(a0, .inr (5, [.int (nI an), .int am, .int al, .int ao, .int au, .ref a1, .ref a2, .ref a3, .ref a4, .ref a5, .ref a6, .ref a7, .ref a8, .ref a9, .ref a10])), (a1, .inl (T 0, 10, .inl (upd af1 an z_9))), (a2, .inl (T 0, 10, .inl (upd af2 an z_18))), (a3, .inl (T 0, 10, .inl (upd af3 an z_26))), (a4, .inl (T 0, 10, .inl af4)), (a5, .inl (T 0, 10, .inl af5)), (a6, .inl (T 0, 10, .inl af6)), (a7, .inl (T 0, 10, .inl af7)), (a8, .inl (T 0, 10, .inl af8)), (t0, .inr (2, [.int (nI tf), .int u2_27, .int l2_28, .ref t1, .int (nI te), .int k2_29, .int (nI r2_30), .int (nI b2_31)])), (t1, .inl (T 3, 900, .inl tx))]) rfl dX2_readSmith_66 (fun H locs V => ?_)
    refine lv_aload_n hx hb dX2_readSmith_67 rfl (lv_at hl 2 rfl) ?_
    refine g_get hC V (ci := 5) uwX5 0 rfl rfl 8 (by decide) w_68 rfl rfl dX2_readSmith_68 ?_
    refine lv_iload_n hx hb dX2_readSmith_71 rfl (lv_at hl 0 rfl) ?_
    refine lv_aload_n hx hb dX2_readSmith_72 rfl (lv_at hl 1 rfl) ?_
    refine g_ldcS hC V 3 rfl dX2_readSmith_73 ?_
    refine lv_iconst (v := (nI 0)) hx hb dX2_readSmith_75 (by decide +kernel) ?_
    refine lv_sipush (v := (nI 200)) hx hb dX2_readSmith_76 (by decide +kernel) ?_
    refine lv_bipush (v := (nI 20)) hx hb dX2_readSmith_79 (by decide +kernel) ?_
    refine g_callV (wr := [(a0, .inr (5, [.int (nI an), .int am, .int al, .int ao, .int au, .ref a1, .ref a2, .ref a3, .ref a4, .ref a5, .ref a6, .ref a7, .ref a8, .ref a9, .ref a10])), (a1, .inl (T 0, 10, .inl (upd af1 an z_9))), (a2, .inl (T 0, 10, .inl (upd af2 an z_18))), (a3, .inl (T 0, 10, .inl (upd af3 an z_26))), (a4, .inl (T 0, 10, .inl af4)), (a5, .inl (T 0, 10, .inl af5)), (a6, .inl (T 0, 10, .inl af6)), (a7, .inl (T 0, 10, .inl af7)), (a8, .inl (T 0, 10, .inl af8))]) (nA := 4) hC V hl.1 (rd_takeOption l D T 3 t0 (nI 0) (nI 200) (nI 20) tf u2_27 l2_28 t1 te k2_29 r2_30 b2_31 tx (by first | assumption | omega) (by first | assumption | omega) (by first | assumption | omega)) w_384 w_386 w_s6 w_4 w_387 (by decide +kernel) rfl ⟨(Nat.le_of_ble_eq_true rfl), (Nat.le_of_ble_eq_true rfl)⟩ 9 (ci := 2) rfl rfl [9, 10] [0, 1, 2, 3, 4, 5, 6, 7, 8] rfl rfl rfl rfl (by decide) (Nat.le_of_ble_eq_true rfl) dX2_readSmith_81 ⟨(Nat.le_of_ble_eq_true rfl), (Nat.le_of_ble_eq_true rfl)⟩ rfl (fun r w1 H locs hQ V => ?_)
    obtain ⟨z_34, u2_35, l2_36, k2_37, r2_38, b2_39, rfl, rfl, f_40, f_41⟩ := hQ
    have V : gW D T A s [(a0, .inr (5, [.int (nI an), .int am, .int al, .int ao, .int au, .ref a1, .ref a2, .ref a3, .ref a4, .ref a5, .ref a6, .ref a7, .ref a8, .ref a9, .ref a10])), (a1, .inl (T 0, 10, .inl (upd af1 an z_9))), (a2, .inl (T 0, 10, .inl (upd af2 an z_18))), (a3, .inl (T 0, 10, .inl (upd af3 an z_26))), (a4, .inl (T 0, 10, .inl af4)), (a5, .inl (T 0, 10, .inl af5)), (a6, .inl (T 0, 10, .inl af6)), (a7, .inl (T 0, 10, .inl af7)), (a8, .inl (T 0, 10, .inl af8)), (t0, .inr (2, [.int (nI tf), .int u2_35, .int l2_36, .ref t1, .int (nI te), .int k2_37, .int (nI r2_38), .int (nI b2_39)])), (t1, .inl (T 3, 900, .inl tx))] H locs := V
    show W p l e _ s m args below meth c H locs _ _ _ (F0 m 84 ls [.int z_34, .int (nI an), .ref a4])
    refine g_iast hC V 4 rfl (vp_in_nI (by omega) (by omega)) (f' := (upd af4 an z_34)) (by rw [nI_clamp (by omega)]) (ws' := [(a0, .inr (5, [.int (nI an), .int am, .int al, .int ao, .int au, .ref a1, .ref a2, .ref a3, .ref a4, .ref a5, .ref a6, .ref a7, .ref a8, .ref a9, .ref a10])), (a1, .inl (T 0, 10, .inl (upd af1 an z_9))), (a2, .inl (T 0, 10, .inl (upd af2 an z_18))), (a3, .inl (T 0, 10, .inl (upd af3 an z_26))), (a4, .inl (T 0, 10, .inl (upd af4 an z_34))), (a5, .inl (T 0, 10, .inl af5)), (a6, .inl (T 0, 10, .inl af6)), (a7, .inl (T 0, 10, .inl af7)), (a8, .inl (T 0, 10, .inl af8)), (t0, .inr (2, [.int (nI tf), .int u2_35, .int l2_36, .ref t1, .int (nI te), .int k2_37, .int (nI r2_38), .int (nI b2_39)])), (t1, .inl (T 3, 900, .inl tx))]) rfl dX2_readSmith_84 (fun H locs V => ?_)
    refine lv_aload_n hx hb dX2_readSmith_85 rfl (lv_at hl 2 rfl) ?_
    refine g_get hC V (ci := 5) uwX5 0 rfl rfl 9 (by decide) w_71 rfl rfl dX2_readSmith_86 ?_
    refine lv_iload_n hx hb dX2_readSmith_89 rfl (lv_at hl 0 rfl) ?_
    refine lv_aload_n hx hb dX2_readSmith_90 rfl (lv_at hl 1 rfl) ?_
    refine g_ldcS hC V 4 rfl dX2_readSmith_91 ?_
    refine lv_aload_n hx hb dX2_readSmith_93 rfl (lv_at hl 2 rfl) ?_
    refine g_get hC V (ci := 5) uwX5 0 rfl rfl 8 (by decide) w_68 rfl rfl dX2_readSmith_94 ?_
    refine lv_iload_n hx hb dX2_readSmith_97 rfl (lv_at hl 0 rfl) ?_
    refine g_iald hC V 4 rfl (vp_in_nI (by omega) (by omega)) (v := ((upd af4 an z_34) an)) (congrArg _ (nI_clamp (by omega))) dX2_readSmith_98 ?_
    refine lv_sipush (v := (nI 200)) hx hb dX2_readSmith_99 (by decide +kernel) ?_
    refine lv_bipush (v := (nI 100)) hx hb dX2_readSmith_102 (by decide +kernel) ?_
    refine lv_aload_n hx hb dX2_readSmith_104 rfl (lv_at hl 2 rfl) ?_
    refine g_get hC V (ci := 5) uwX5 0 rfl rfl 8 (by decide) w_68 rfl rfl dX2_readSmith_105 ?_
    refine lv_iload_n hx hb dX2_readSmith_108 rfl (lv_at hl 0 rfl) ?_
    refine g_iald hC V 4 rfl (vp_in_nI (by omega) (by omega)) (v := ((upd af4 an z_34) an)) (congrArg _ (nI_clamp (by omega))) dX2_readSmith_109 ?_
    refine va_mmax hx hb (hml.trans hl.1.symm) hown (hts _ w_391) (hts _ w_392) (hts _ w_10) (hts _ w_393) (Nat.le_of_ble_eq_true rfl) (Nat.le_of_ble_eq_true rfl) (Nat.le_of_ble_eq_true rfl) (Nat.le_of_ble_eq_true rfl) dX2_readSmith_110 ?_
    refine lv_topi (fun x_42 ex_42 => ?_)
    refine g_callV (wr := [(a0, .inr (5, [.int (nI an), .int am, .int al, .int ao, .int au, .ref a1, .ref a2, .ref a3, .ref a4, .ref a5, .ref a6, .ref a7, .ref a8, .ref a9, .ref a10])), (a1, .inl (T 0, 10, .inl (upd af1 an z_9))), (a2, .inl (T 0, 10, .inl (upd af2 an z_18))), (a3, .inl (T 0, 10, .inl (upd af3 an z_26))), (a4, .inl (T 0, 10, .inl (upd af4 an z_34))), (a5, .inl (T 0, 10, .inl af5)), (a6, .inl (T 0, 10, .inl af6)), (a7, .inl (T 0, 10, .inl af7)), (a8, .inl (T 0, 10, .inl af8))]) (nA := 4) hC V hl.1 (rd_takeOption l D T 4 t0 ((upd af4 an z_34) an) (nI 200) x_42 tf u2_35 l2_36 t1 te k2_37 r2_38 b2_39 tx (by first | assumption | omega) (by first | assumption | omega) (by first | assumption | omega)) w_384 w_386 w_s6 w_4 w_387 (by decide +kernel) rfl ⟨(Nat.le_of_ble_eq_true rfl), (Nat.le_of_ble_eq_true rfl)⟩ 9 (ci := 2) rfl rfl [9, 10] [0, 1, 2, 3, 4, 5, 6, 7, 8] rfl rfl rfl rfl (by decide) (Nat.le_of_ble_eq_true rfl) dX2_readSmith_113 ⟨(Nat.le_of_ble_eq_true rfl), (Nat.le_of_ble_eq_true rfl)⟩ rfl (fun r w1 H locs hQ V => ?_)
    obtain ⟨z_43, u2_44, l2_45, k2_46, r2_47, b2_48, rfl, rfl, f_49, f_50⟩ := hQ
    have V : gW D T A s [(a0, .inr (5, [.int (nI an), .int am, .int al, .int ao, .int au, .ref a1, .ref a2, .ref a3, .ref a4, .ref a5, .ref a6, .ref a7, .ref a8, .ref a9, .ref a10])), (a1, .inl (T 0, 10, .inl (upd af1 an z_9))), (a2, .inl (T 0, 10, .inl (upd af2 an z_18))), (a3, .inl (T 0, 10, .inl (upd af3 an z_26))), (a4, .inl (T 0, 10, .inl (upd af4 an z_34))), (a5, .inl (T 0, 10, .inl af5)), (a6, .inl (T 0, 10, .inl af6)), (a7, .inl (T 0, 10, .inl af7)), (a8, .inl (T 0, 10, .inl af8)), (t0, .inr (2, [.int (nI tf), .int u2_44, .int l2_45, .ref t1, .int (nI te), .int k2_46, .int (nI r2_47), .int (nI b2_48)])), (t1, .inl (T 3, 900, .inl tx))] H locs := V
    show W p l e _ s m args below meth c H locs _ _ _ (F0 m 116 ls [.int z_43, .int (nI an), .ref a5])
    refine g_iast hC V 5 rfl (vp_in_nI (by omega) (by omega)) (f' := (upd af5 an z_43)) (by rw [nI_clamp (by omega)]) (ws' := [(a0, .inr (5, [.int (nI an), .int am, .int al, .int ao, .int au, .ref a1, .ref a2, .ref a3, .ref a4, .ref a5, .ref a6, .ref a7, .ref a8, .ref a9, .ref a10])), (a1, .inl (T 0, 10, .inl (upd af1 an z_9))), (a2, .inl (T 0, 10, .inl (upd af2 an z_18))), (a3, .inl (T 0, 10, .inl (upd af3 an z_26))), (a4, .inl (T 0, 10, .inl (upd af4 an z_34))), (a5, .inl (T 0, 10, .inl (upd af5 an z_43))), (a6, .inl (T 0, 10, .inl af6)), (a7, .inl (T 0, 10, .inl af7)), (a8, .inl (T 0, 10, .inl af8)), (t0, .inr (2, [.int (nI tf), .int u2_44, .int l2_45, .ref t1, .int (nI te), .int k2_46, .int (nI r2_47), .int (nI b2_48)])), (t1, .inl (T 3, 900, .inl tx))]) rfl dX2_readSmith_116 (fun H locs V => ?_)
    refine lv_aload_n hx hb dX2_readSmith_117 rfl (lv_at hl 2 rfl) ?_
    refine lv_iload_n hx hb dX2_readSmith_118 rfl (lv_at hl 0 rfl) ?_
    refine lv_aload_n hx hb dX2_readSmith_119 rfl (lv_at hl 1 rfl) ?_
    refine g_ldcS hC V 5 rfl dX2_readSmith_120 ?_
    refine lv_iconst (v := (nI 0)) hx hb dX2_readSmith_122 (by decide +kernel) ?_
    refine lv_bipush (v := (nI 20)) hx hb dX2_readSmith_123 (by decide +kernel) ?_
    refine lv_iconst (v := (nI 3)) hx hb dX2_readSmith_125 (by decide +kernel) ?_
    refine g_callV (wr := [(a0, .inr (5, [.int (nI an), .int am, .int al, .int ao, .int au, .ref a1, .ref a2, .ref a3, .ref a4, .ref a5, .ref a6, .ref a7, .ref a8, .ref a9, .ref a10])), (a1, .inl (T 0, 10, .inl (upd af1 an z_9))), (a2, .inl (T 0, 10, .inl (upd af2 an z_18))), (a3, .inl (T 0, 10, .inl (upd af3 an z_26))), (a4, .inl (T 0, 10, .inl (upd af4 an z_34))), (a5, .inl (T 0, 10, .inl (upd af5 an z_43))), (a6, .inl (T 0, 10, .inl af6)), (a7, .inl (T 0, 10, .inl af7)), (a8, .inl (T 0, 10, .inl af8))]) (nA := 4) hC V hl.1 (rd_takeOption l D T 5 t0 (nI 0) (nI 20) (nI 3) tf u2_44 l2_45 t1 te k2_46 r2_47 b2_48 tx (by first | assumption | omega) (by first | assumption | omega) (by first | assumption | omega)) w_384 w_386 w_s6 w_4 w_387 (by decide +kernel) rfl ⟨(Nat.le_of_ble_eq_true rfl), (Nat.le_of_ble_eq_true rfl)⟩ 9 (ci := 2) rfl rfl [9, 10] [0, 1, 2, 3, 4, 5, 6, 7, 8] rfl rfl rfl rfl (by decide) (Nat.le_of_ble_eq_true rfl) dX2_readSmith_126 ⟨(Nat.le_of_ble_eq_true rfl), (Nat.le_of_ble_eq_true rfl)⟩ rfl (fun r w1 H locs hQ V => ?_)
    obtain ⟨z_51, u2_52, l2_53, k2_54, r2_55, b2_56, rfl, rfl, f_57, f_58⟩ := hQ
    have V : gW D T A s [(a0, .inr (5, [.int (nI an), .int am, .int al, .int ao, .int au, .ref a1, .ref a2, .ref a3, .ref a4, .ref a5, .ref a6, .ref a7, .ref a8, .ref a9, .ref a10])), (a1, .inl (T 0, 10, .inl (upd af1 an z_9))), (a2, .inl (T 0, 10, .inl (upd af2 an z_18))), (a3, .inl (T 0, 10, .inl (upd af3 an z_26))), (a4, .inl (T 0, 10, .inl (upd af4 an z_34))), (a5, .inl (T 0, 10, .inl (upd af5 an z_43))), (a6, .inl (T 0, 10, .inl af6)), (a7, .inl (T 0, 10, .inl af7)), (a8, .inl (T 0, 10, .inl af8)), (t0, .inr (2, [.int (nI tf), .int u2_52, .int l2_53, .ref t1, .int (nI te), .int k2_54, .int (nI r2_55), .int (nI b2_56)])), (t1, .inl (T 3, 900, .inl tx))] H locs := V
    show W p l e _ s m args below meth c H locs _ _ _ (F0 m 129 ls [.int z_51, .int (nI an), .ref a0])
    refine g_callV (wr := [(a1, .inl (T 0, 10, .inl (upd af1 an z_9))), (a2, .inl (T 0, 10, .inl (upd af2 an z_18))), (a3, .inl (T 0, 10, .inl (upd af3 an z_26))), (a4, .inl (T 0, 10, .inl (upd af4 an z_34))), (a5, .inl (T 0, 10, .inl (upd af5 an z_43))), (t0, .inr (2, [.int (nI tf), .int u2_52, .int l2_53, .ref t1, .int (nI te), .int k2_54, .int (nI r2_55), .int (nI b2_56)])), (t1, .inl (T 3, 900, .inl tx))]) (nA := 2) hC V hl.1 (s_beginPiece l D T a0 an z_51 an am al ao au a1 a2 a3 a4 a5 a6 a7 a8 a9 a10 af6 af7 af8 (by first | assumption | omega)) w_395 w_396 w_397 w_3 w_398 (by decide +kernel) rfl ⟨(Nat.le_of_ble_eq_true rfl), (Nat.le_of_ble_eq_true rfl)⟩ 0 (ci := 5) rfl rfl [0, 6, 7, 8] [1, 2, 3, 4, 5, 9, 10] rfl rfl rfl rfl (by decide) (Nat.le_of_ble_eq_true rfl) dX2_readSmith_129 ⟨(Nat.le_of_ble_eq_true rfl), (Nat.le_of_ble_eq_true rfl)⟩ rfl (fun r w1 H locs hQ V => ?_)
    obtain ⟨g6_59, g7_60, g8_61, rfl, rfl, f_62, f_63, f_64⟩ := hQ
    have V : gW D T A s [(a1, .inl (T 0, 10, .inl (upd af1 an z_9))), (a2, .inl (T 0, 10, .inl (upd af2 an z_18))), (a3, .inl (T 0, 10, .inl (upd af3 an z_26))), (a4, .inl (T 0, 10, .inl (upd af4 an z_34))), (a5, .inl (T 0, 10, .inl (upd af5 an z_43))), (t0, .inr (2, [.int (nI tf), .int u2_52, .int l2_53, .ref t1, .int (nI te), .int k2_54, .int (nI r2_55), .int (nI b2_56)])), (t1, .inl (T 3, 900, .inl tx)), (a0, .inr (5, [.int (nI an), .int am, .int al, .int ao, .int au, .ref a1, .ref a2, .ref a3, .ref a4, .ref a5, .ref a6, .ref a7, .ref a8, .ref a9, .ref a10])), (a6, .inl (T 0, 10, .inl g6_59)), (a7, .inl (T 0, 10, .inl g7_60)), (a8, .inl (T 0, 10, .inl g8_61))] H locs := V
    show W p l e _ s m args below meth c H locs _ _ _ (F0 m 132 ls [])
    refine lv_aload_n hx hb dX2_readSmith_132 rfl (lv_at hl 2 rfl) ?_
    refine lv_dup hx hb dX2_readSmith_133 rfl ?_
    refine g_get hC V (ci := 5) uwX5 7 rfl rfl 0 (by decide) w_36 rfl rfl dX2_readSmith_134 ?_
    refine lv_iconst (v := (nI 1)) hx hb dX2_readSmith_137 (by decide +kernel) ?_
    refine lv_iadd hx hb dX2_readSmith_138 ?_
    refine g_vi (y := (nI (an + 1))) (nI_add _ _) ?_
    refine g_put hC V (ci := 5) uwX5 tyX5 tyX5_ok nmX5 7 rfl rfl 0 (by decide) w_36 rfl rfl rfl rfl (Nat.le_of_ble_eq_true rfl) (ws' := [(a1, .inl (T 0, 10, .inl (upd af1 an z_9))), (a2, .inl (T 0, 10, .inl (upd af2 an z_18))), (a3, .inl (T 0, 10, .inl (upd af3 an z_26))), (a4, .inl (T 0, 10, .inl (upd af4 an z_34))), (a5, .inl (T 0, 10, .inl (upd af5 an z_43))), (t0, .inr (2, [.int (nI tf), .int u2_52, .int l2_53, .ref t1, .int (nI te), .int k2_54, .int (nI r2_55), .int (nI b2_56)])), (t1, .inl (T 3, 900, .inl tx)), (a0, .inr (5, [.int (nI (an + 1)), .int am, .int al, .int ao, .int au, .ref a1, .ref a2, .ref a3, .ref a4, .ref a5, .ref a6, .ref a7, .ref a8, .ref a9, .ref a10])), (a6, .inl (T 0, 10, .inl g6_59)), (a7, .inl (T 0, 10, .inl g7_60)), (a8, .inl (T 0, 10, .inl g8_61))]) rfl dX2_readSmith_139 (fun H locs V => ?_)
    have V := V.sub (ws' := [(t0, .inr (2, [.int (nI tf), .int u2_52, .int l2_53, .ref t1, .int (nI te), .int k2_54, .int (nI r2_55), .int (nI b2_56)])), (t1, .inl (T 3, 900, .inl tx)), (a0, .inr (5, [.int (nI (an + 1)), .int am, .int al, .int ao, .int au, .ref a1, .ref a2, .ref a3, .ref a4, .ref a5, .ref a6, .ref a7, .ref a8, .ref a9, .ref a10])), (a1, .inl (T 0, 10, .inl (upd af1 an z_9))), (a2, .inl (T 0, 10, .inl (upd af2 an z_18))), (a3, .inl (T 0, 10, .inl (upd af3 an z_26))), (a4, .inl (T 0, 10, .inl (upd af4 an z_34))), (a5, .inl (T 0, 10, .inl (upd af5 an z_43))), (a6, .inl (T 0, 10, .inl g6_59)), (a7, .inl (T 0, 10, .inl g7_60)), (a8, .inl (T 0, 10, .inl g8_61))]) [5, 6, 7, 0, 1, 2, 3, 4, 8, 9, 10] rfl rfl
    exact g_vret (Qr := (q_rd_readSmith T t0 a0 tf tu tl t1 te tk tr tb tx an am al ao au a1 a2 a3 a4 a5 a6 a7 a8 a9 a10 af1 af2 af3 af4 af5 af6 af7 af8)) hC V ⟨(Nat.le_of_ble_eq_true rfl), (Nat.le_of_ble_eq_true rfl)⟩ ⟨u2_52, l2_53, k2_54, r2_55, b2_56, (an + 1), (upd af1 an z_9), (upd af2 an z_18), (upd af3 an z_26), (upd af4 an z_34), (upd af5 an z_43), g6_59, g7_60, g8_61, rfl, rfl, (by first | assumption | omega), (by first | assumption | omega), (by first | assumption | omega)⟩ dX2_readSmith_142
  · skip
    have c_1 := b_nlt (by omega) (by omega) c_1
    refine lv_aload_n hx hb dX2_readSmith_11 rfl (lv_at hl 1 rfl) ?_
    refine lv_iconst (v := (nI 4)) hx hb dX2_readSmith_12 (by decide +kernel) ?_
    refine g_callV (wr := [(t1, .inl (T 3, 900, .inl tx)), (a0, .inr (5, [.int (nI an), .int am, .int al, .int ao, .int au, .ref a1, .ref a2, .ref a3, .ref a4, .ref a5, .ref a6, .ref a7, .ref a8, .ref a9, .ref a10])), (a1, .inl (T 0, 10, .inl af1)), (a2, .inl (T 0, 10, .inl af2)), (a3, .inl (T 0, 10, .inl af3)), (a4, .inl (T 0, 10, .inl af4)), (a5, .inl (T 0, 10, .inl af5)), (a6, .inl (T 0, 10, .inl af6)), (a7, .inl (T 0, 10, .inl af7)), (a8, .inl (T 0, 10, .inl af8))]) (nA := 1) hC V hl.1 (rd_fail l D T t0 (nI 4) tf tu tl t1 te tk tr tb (by decide +kernel)) w_317 w_319 w_s2 w_4 w_320 (by decide +kernel) rfl ⟨(Nat.le_of_ble_eq_true rfl), (Nat.le_of_ble_eq_true rfl)⟩ 0 (ci := 2) rfl rfl [0] [1, 2, 3, 4, 5, 6, 7, 8, 9, 10] rfl rfl rfl rfl (by decide) (Nat.le_of_ble_eq_true rfl) dX2_readSmith_13 ⟨(Nat.le_of_ble_eq_true rfl), (Nat.le_of_ble_eq_true rfl)⟩ rfl (fun r w1 H locs hQ V => ?_)
    obtain ⟨u2_65, l2_66, rfl, rfl, f_67⟩ := hQ
    have V : gW D T A s [(t1, .inl (T 3, 900, .inl tx)), (a0, .inr (5, [.int (nI an), .int am, .int al, .int ao, .int au, .ref a1, .ref a2, .ref a3, .ref a4, .ref a5, .ref a6, .ref a7, .ref a8, .ref a9, .ref a10])), (a1, .inl (T 0, 10, .inl af1)), (a2, .inl (T 0, 10, .inl af2)), (a3, .inl (T 0, 10, .inl af3)), (a4, .inl (T 0, 10, .inl af4)), (a5, .inl (T 0, 10, .inl af5)), (a6, .inl (T 0, 10, .inl af6)), (a7, .inl (T 0, 10, .inl af7)), (a8, .inl (T 0, 10, .inl af8)), (t0, .inr (2, [.int (nI tf), .int u2_65, .int l2_66, .ref t1, .int (nI te), .int tk, .int (nI tr), .int (nI tb)]))] H locs := V
    show W p l e _ s m args below meth c H locs _ _ _ (F0 m 16 ls [])
    have V := V.sub (ws' := [(t0, .inr (2, [.int (nI tf), .int u2_65, .int l2_66, .ref t1, .int (nI te), .int tk, .int (nI tr), .int (nI tb)])), (t1, .inl (T 3, 900, .inl tx)), (a0, .inr (5, [.int (nI an), .int am, .int al, .int ao, .int au, .ref a1, .ref a2, .ref a3, .ref a4, .ref a5, .ref a6, .ref a7, .ref a8, .ref a9, .ref a10])), (a1, .inl (T 0, 10, .inl af1)), (a2, .inl (T 0, 10, .inl af2)), (a3, .inl (T 0, 10, .inl af3)), (a4, .inl (T 0, 10, .inl af4)), (a5, .inl (T 0, 10, .inl af5)), (a6, .inl (T 0, 10, .inl af6)), (a7, .inl (T 0, 10, .inl af7)), (a8, .inl (T 0, 10, .inl af8))]) [10, 0, 1, 2, 3, 4, 5, 6, 7, 8, 9] rfl rfl
    exact g_vret (Qr := (q_rd_readSmith T t0 a0 tf tu tl t1 te tk tr tb tx an am al ao au a1 a2 a3 a4 a5 a6 a7 a8 a9 a10 af1 af2 af3 af4 af5 af6 af7 af8)) hC V ⟨(Nat.le_of_ble_eq_true rfl), (Nat.le_of_ble_eq_true rfl)⟩ ⟨u2_65, l2_66, tk, tr, tb, an, af1, af2, af3, af4, af5, af6, af7, af8, rfl, rfl, (by first | assumption | omega), (by first | assumption | omega), (by first | assumption | omega)⟩ dX2_readSmith_16

def q_rd_readBlows (T : Nat → ClassId) (t0 : Nat) (a0 : Nat) (tf : Nat) (tu : Int32) (tl : Int32) (t1 : Nat) (te : Nat) (tk : Int32) (tr : Nat) (tb : Nat) (tx : Nat → Int32) (an : Nat) (am : Int32) (al : Int32) (ao : Int32) (au : Int32) (a1 : Nat) (a2 : Nat) (a3 : Nat) (a4 : Nat) (a5 : Nat) (a6 : Nat) (a7 : Nat) (a8 : Nat) (a9 : Nat) (a10 : Nat) (af9 : Nat → Int32) : Option Value → va_W → Prop := fun rr ww => (∃ (u2 : Int32) (l2 : Int32) (k2 : Int32) (r2 : Nat) (b2 : Nat) (g : Nat → Int32), rr = none ∧ ww = [(t0, .inr (2, [.int (nI tf), .int u2, .int l2, .ref t1, .int (nI te), .int k2, .int (nI r2), .int (nI b2)])), (t1, .inl (T 3, 900, .inl tx)), (a0, .inr (5, [.int (nI an), .int am, .int al, .int ao, .int au, .ref a1, .ref a2, .ref a3, .ref a4, .ref a5, .ref a6, .ref a7, .ref a8, .ref a9, .ref a10])), (a9, .inl (T 0, 10, .inl g))] ∧ (r2 ≤ b2 ∧ b2 ≤ te) ∧ (∀ i, i < 10 → (bd (g i) an ∨ g i = -1)))
set_option maxHeartbeats 4000000 in
set_option maxRecDepth 100000 in
theorem rd_readBlows (l : Launch) (D : va_G) (T : Nat → ClassId) (t0 : Nat) (a0 : Nat) (tf : Nat) (tu : Int32) (tl : Int32) (t1 : Nat) (te : Nat) (tk : Int32) (tr : Nat) (tb : Nat) (tx : Nat → Int32) (an : Nat) (am : Int32) (al : Int32) (ao : Int32) (au : Int32) (a1 : Nat) (a2 : Nat) (a3 : Nat) (a4 : Nat) (a5 : Nat) (a6 : Nat) (a7 : Nat) (a8 : Nat) (a9 : Nat) (a10 : Nat) (af9 : Nat → Int32) (h_e : te ≤ 900) (h_rb : tr ≤ tb ∧ tb ≤ te) (h_n : an ≤ 10) (h_t : ∀ i, i < 10 → (bd (af9 i) an ∨ af9 i = -1)) : Ct l yX2_readBlows cX2_readBlows 4 none 3 0 0 D T [.ref t0, .ref a0] [(t0, .inr (2, [.int (nI tf), .int tu, .int tl, .ref t1, .int (nI te), .int tk, .int (nI tr), .int (nI tb)])), (t1, .inl (T 3, 900, .inl tx)), (a0, .inr (5, [.int (nI an), .int am, .int al, .int ao, .int au, .ref a1, .ref a2, .ref a3, .ref a4, .ref a5, .ref a6, .ref a7, .ref a8, .ref a9, .ref a10])), (a9, .inl (T 0, 10, .inl af9))] (q_rd_readBlows T t0 a0 tf tu tl t1 te tk tr tb tx an am al ao au a1 a2 a3 a4 a5 a6 a7 a8 a9 a10 af9) := by
  refine Ct.of (cc := cX2_readBlows) (maxL := 4) (ret := none) (by decide) (Nat.le_of_ble_eq_true rfl) ?_
  intro p e s m args below meth c A ls hC hnm V hl
  obtain ⟨hx, hb, hr, hml, hown, hts, hlocks⟩ := id hC
  generalize hH : s.heap = H at V ⊢
  clear hH
  have hl : lv_has ls 4 [(0, .ref t0), (1, .ref a0)] := hl
  generalize hlo : ([] : List Loc) = locs at V ⊢
  clear hlo
  refine lv_aload_n hx hb dX2_readBlows_0 rfl (lv_at hl 0 rfl) ?_
  refine g_callV (wr := [(a0, .inr (5, [.int (nI an), .int am, .int al, .int ao, .int au, .ref a1, .ref a2, .ref a3, .ref a4, .ref a5, .ref a6, .ref a7, .ref a8, .ref a9, .ref a10])), (a9, .inl (T 0, 10, .inl af9))]) (nA := 0) hC V hl.1 (rd_next l D T t0 tf tu tl t1 te tk (nI tr) tb tx (by first | assumption | omega) (by first | assumption | omega)) w_309 w_311 w_s0 w_4 w_312 (by decide +kernel) rfl ⟨(Nat.le_of_ble_eq_true rfl), (Nat.le_of_ble_eq_true rfl)⟩ 0 (ci := 2) rfl rfl [0, 1] [2, 3] rfl rfl rfl rfl (by decide) (Nat.le_of_ble_eq_true rfl) dX2_readBlows_1 ⟨(Nat.le_of_ble_eq_true rfl), (Nat.le_of_ble_eq_true rfl)⟩ rfl (fun r w1 H locs hQ V => ?_)
  obtain ⟨u2_1, l2_2, k2_3, r2_4, b2_5, rfl, rfl, f_6, f_7⟩ := hQ
  have V : gW D T A s [(a0, .inr (5, [.int (nI an), .int am, .int al, .int ao, .int au, .ref a1, .ref a2, .ref a3, .ref a4, .ref a5, .ref a6, .ref a7, .ref a8, .ref a9, .ref a10])), (a9, .inl (T 0, 10, .inl af9)), (t0, .inr (2, [.int (nI tf), .int u2_1, .int l2_2, .ref t1, .int (nI te), .int k2_3, .int (nI r2_4), .int (nI b2_5)])), (t1, .inl (T 3, 900, .inl tx))] H locs := V
  show W p l e _ s m args below meth c H locs _ _ _ (F0 m 4 ls [])
  refine lv_aload_n hx hb dX2_readBlows_4 rfl (lv_at hl 0 rfl) ?_
  refine lv_iconst (v := (nI 0)) hx hb dX2_readBlows_5 (by decide +kernel) ?_
  refine lv_aload_n hx hb dX2_readBlows_6 rfl (lv_at hl 1 rfl) ?_
  refine g_get hC V (ci := 5) uwX5 0 rfl rfl 0 (by decide) w_36 rfl rfl dX2_readBlows_7 ?_
  refine lv_iconst (v := (nI 1)) hx hb dX2_readBlows_10 (by decide +kernel) ?_
  refine lv_isub hx hb dX2_readBlows_11 ?_
  refine g_callV (wr := [(a0, .inr (5, [.int (nI an), .int am, .int al, .int ao, .int au, .ref a1, .ref a2, .ref a3, .ref a4, .ref a5, .ref a6, .ref a7, .ref a8, .ref a9, .ref a10])), (a9, .inl (T 0, 10, .inl af9))]) (nA := 2) hC V hl.1 (rd_takeNumber l D T t0 (nI 0) ((nI an) - (nI 1)) tf u2_1 l2_2 t1 te k2_3 r2_4 b2_5 tx (by first | assumption | omega) (by first | assumption | omega)) w_378 w_380 w_s5 w_4 w_381 (by decide +kernel) rfl ⟨(Nat.le_of_ble_eq_true rfl), (Nat.le_of_ble_eq_true rfl)⟩ 2 (ci := 2) rfl rfl [2, 3] [0, 1] rfl rfl rfl rfl (by decide) (Nat.le_of_ble_eq_true rfl) dX2_readBlows_12 ⟨(Nat.le_of_ble_eq_true rfl), (Nat.le_of_ble_eq_true rfl)⟩ rfl (fun r w1 H locs hQ V => ?_)
  obtain ⟨z_8, u2_9, l2_10, k2_11, r2_12, b2_13, rfl, rfl, f_14, f_15, f_16⟩ := hQ
  have V : gW D T A s [(a0, .inr (5, [.int (nI an), .int am, .int al, .int ao, .int au, .ref a1, .ref a2, .ref a3, .ref a4, .ref a5, .ref a6, .ref a7, .ref a8, .ref a9, .ref a10])), (a9, .inl (T 0, 10, .inl af9)), (t0, .inr (2, [.int (nI tf), .int u2_9, .int l2_10, .ref t1, .int (nI te), .int k2_11, .int (nI r2_12), .int (nI b2_13)])), (t1, .inl (T 3, 900, .inl tx))] H locs := V
  show W p l e _ s m args below meth c H locs _ _ _ (F0 m 15 ls [.int z_8])
  refine lv_istore_n (lv' := [(2, .int z_8), (0, .ref t0), (1, .ref a0)]) hx hb dX2_readBlows_15 rfl hl (by decide) rfl (fun ls hl => ?_)
  refine lv_aload_n hx hb dX2_readBlows_16 rfl (lv_at hl 1 rfl) ?_
  refine lv_iconst (v := (nI 0)) hx hb dX2_readBlows_17 (by decide +kernel) ?_
  refine lv_aload_n hx hb dX2_readBlows_18 rfl (lv_at hl 2 rfl) ?_
  refine g_get hC V (ci := 5) uwX5 0 rfl rfl 0 (by decide) w_36 rfl rfl dX2_readBlows_19 ?_
  refine lv_iconst (v := (nI 1)) hx hb dX2_readBlows_22 (by decide +kernel) ?_
  refine lv_isub hx hb dX2_readBlows_23 ?_
  refine g_callV (wr := [(a0, .inr (5, [.int (nI an), .int am, .int al, .int ao, .int au, .ref a1, .ref a2, .ref a3, .ref a4, .ref a5, .ref a6, .ref a7, .ref a8, .ref a9, .ref a10])), (a9, .inl (T 0, 10, .inl af9))]) (nA := 2) hC V hl.1 (rd_takeNumber l D T t0 (nI 0) ((nI an) - (nI 1)) tf u2_9 l2_10 t1 te k2_11 r2_12 b2_13 tx (by first | assumption | omega) (by first | assumption | omega)) w_378 w_380 w_s5 w_4 w_381 (by decide +kernel) rfl ⟨(Nat.le_of_ble_eq_true rfl), (Nat.le_of_ble_eq_true rfl)⟩ 2 (ci := 2) rfl rfl [2, 3] [0, 1] rfl rfl rfl rfl (by decide) (Nat.le_of_ble_eq_true rfl) dX2_readBlows_24 ⟨(Nat.le_of_ble_eq_true rfl), (Nat.le_of_ble_eq_true rfl)⟩ rfl (fun r w1 H locs hQ V => ?_)
  obtain ⟨z_17, u2_18, l2_19, k2_20, r2_21, b2_22, rfl, rfl, f_23, f_24, f_25⟩ := hQ
  have V : gW D T A s [(a0, .inr (5, [.int (nI an), .int am, .int al, .int ao, .int au, .ref a1, .ref a2, .ref a3, .ref a4, .ref a5, .ref a6, .ref a7, .ref a8, .ref a9, .ref a10])), (a9, .inl (T 0, 10, .inl af9)), (t0, .inr (2, [.int (nI tf), .int u2_18, .int l2_19, .ref t1, .int (nI te), .int k2_20, .int (nI r2_21), .int (nI b2_22)])), (t1, .inl (T 3, 900, .inl tx))] H locs := V
  show W p l e _ s m args below meth c H locs _ _ _ (F0 m 27 ls [.int z_17])
  refine lv_istore_n (lv' := [(3, .int z_17), (2, .int z_8), (0, .ref t0), (1, .ref a0)]) hx hb dX2_readBlows_27 rfl hl (by decide) rfl (fun ls hl => ?_)
  refine lv_aload_n hx hb dX2_readBlows_28 rfl (lv_at hl 2 rfl) ?_
  refine g_get hC V (ci := 2) uwX2 2 rfl rfl 1 (by decide) w_130 rfl rfl dX2_readBlows_29 ?_
  refine lv_if_ne (tgt := 42) hx hb dX2_readBlows_32 (by decide) (fun c_26 => ?_) (fun c_26 => ?_)
  · skip
    have V := V.sub (ws' := [(t0, .inr (2, [.int (nI tf), .int u2_18, .int l2_19, .ref t1, .int (nI te), .int k2_20, .int (nI r2_21), .int (nI b2_22)])), (t1, .inl (T 3, 900, .inl tx)), (a0, .inr (5, [.int (nI an), .int am, .int al, .int ao, .int au, .ref a1, .ref a2, .ref a3, .ref a4, .ref a5, .ref a6, .ref a7, .ref a8, .ref a9, .ref a10])), (a9, .inl (T 0, 10, .inl af9))]) [2, 3, 0, 1] rfl rfl
    exact g_vret (Qr := (q_rd_readBlows T t0 a0 tf tu tl t1 te tk tr tb tx an am al ao au a1 a2 a3 a4 a5 a6 a7 a8 a9 a10 af9)) hC V ⟨(Nat.le_of_ble_eq_true rfl), (Nat.le_of_ble_eq_true rfl)⟩ ⟨u2_18, l2_19, k2_20, r2_21, b2_22, af9, rfl, rfl, (by omega), h_t⟩ dX2_readBlows_42
  · skip
    obtain ⟨jw, hjw, ejw⟩ := pred_bd h_n (f_16 (f_23 c_26)).1 (f_16 (f_23 c_26)).2
    have hwm := pred_bd h_n (f_25 c_26).1 (f_25 c_26).2
    rw [ejw] at hl
    refine lv_aload_n hx hb dX2_readBlows_35 rfl (lv_at hl 3 rfl) ?_
    refine g_get hC V (ci := 5) uwX5 0 rfl rfl 13 (by decide) w_83 rfl rfl dX2_readBlows_36 ?_
    refine lv_iload_n hx hb dX2_readBlows_39 rfl (lv_at hl 1 rfl) ?_
    refine lv_iload_n hx hb dX2_readBlows_40 rfl (lv_at hl 0 rfl) ?_
    refine g_iast hC V 1 rfl (vp_in_nI (by omega) (by omega)) (f' := (upd af9 jw z_17)) (by rw [nI_clamp (by omega)]) (ws' := [(a0, .inr (5, [.int (nI an), .int am, .int al, .int ao, .int au, .ref a1, .ref a2, .ref a3, .ref a4, .ref a5, .ref a6, .ref a7, .ref a8, .ref a9, .ref a10])), (a9, .inl (T 0, 10, .inl (upd af9 jw z_17))), (t0, .inr (2, [.int (nI tf), .int u2_18, .int l2_19, .ref t1, .int (nI te), .int k2_20, .int (nI r2_21), .int (nI b2_22)])), (t1, .inl (T 3, 900, .inl tx))]) rfl dX2_readBlows_41 (fun H locs V => ?_)
    have V := V.sub (ws' := [(t0, .inr (2, [.int (nI tf), .int u2_18, .int l2_19, .ref t1, .int (nI te), .int k2_20, .int (nI r2_21), .int (nI b2_22)])), (t1, .inl (T 3, 900, .inl tx)), (a0, .inr (5, [.int (nI an), .int am, .int al, .int ao, .int au, .ref a1, .ref a2, .ref a3, .ref a4, .ref a5, .ref a6, .ref a7, .ref a8, .ref a9, .ref a10])), (a9, .inl (T 0, 10, .inl (upd af9 jw z_17)))]) [2, 3, 0, 1] rfl rfl
    exact g_vret (Qr := (q_rd_readBlows T t0 a0 tf tu tl t1 te tk tr tb tx an am al ao au a1 a2 a3 a4 a5 a6 a7 a8 a9 a10 af9)) hC V ⟨(Nat.le_of_ble_eq_true rfl), (Nat.le_of_ble_eq_true rfl)⟩ ⟨u2_18, l2_19, k2_20, r2_21, b2_22, (upd af9 jw z_17), rfl, rfl, (by omega), (up_all (p := fun x => bd x an ∨ x = -1) h_t (fun _ => Or.inl hwm))⟩ dX2_readBlows_42

def q_fill10 (T : Nat → ClassId) (a : Nat) (x : Int32) (f0 : Nat → Int32) : Option Value → va_W → Prop := fun rr ww => (∃ (g : Nat → Int32), rr = none ∧ ww = [(a, .inl (T 0, 10, .inl g))] ∧ (∀ i, i < 10 → g i = x))
set_option maxHeartbeats 4000000 in
set_option maxRecDepth 100000 in
theorem c_fill10 (l : Launch) (D : va_G) (T : Nat → ClassId) (a : Nat) (x : Int32) (f0 : Nat → Int32) : Ct l yJ7_fill_53178 cJ7_fill_53178 4 none 0 0 0 D T [.ref a, .int x] [(a, .inl (T 0, 10, .inl f0))] (q_fill10 T a x f0) := by
  refine Ct.of (cc := cJ7_fill_53178) (maxL := 4) (ret := none) (by decide) (Nat.le_of_ble_eq_true rfl) ?_
  intro p e s m args below meth c A ls hC hnm V hl
  obtain ⟨hx, hb, hr, hml, hown, hts, hlocks⟩ := id hC
  generalize hH : s.heap = H at V ⊢
  clear hH
  have hl : lv_has ls 4 [(0, .ref a), (1, .int x)] := hl
  generalize hlo : ([] : List Loc) = locs at V ⊢
  clear hlo
  refine lv_iconst (v := (nI 0)) hx hb dJ7_fill_53178_0 (by decide +kernel) ?_
  refine lv_istore_n (lv' := [(2, .int (nI 0)), (0, .ref a), (1, .int x)]) hx hb dJ7_fill_53178_1 rfl hl (by decide) rfl (fun ls hl => ?_)
  refine lv_aload_n hx hb dJ7_fill_53178_2 rfl (lv_at hl 1 rfl) ?_
  refine g_alen hC V 0 0 rfl rfl dJ7_fill_53178_3 ?_
  refine lv_istore_n (lv' := [(3, .int (nI 10)), (2, .int (nI 0)), (0, .ref a), (1, .int x)]) hx hb dJ7_fill_53178_4 rfl hl (by decide) rfl (fun ls hl => ?_)
  have L_1 : ∀ (fu : Nat) (k : Nat) (f : Nat → Int32), k ≤ 10 → (∀ i, i < k → f i = x) → 10 - k < fu → ∀ (H : Heap) (locs : List Loc) (ls : Array Slot), gW D T A s [(a, .inl (T 0, 10, .inl f))] H locs → lv_has ls 4 [(3, .int (nI 10)), (2, .int (nI k)), (0, .ref a), (1, .int x)] → W p l e (rmD 0 0 0) s m args below meth c H locs 0 0 (MQ below (gQ D A (q_fill10 T a x f0)) args s 0 0 A) (F0 m 5 ls []) := by
    intro fu_5
    induction fu_5 with
    | zero => intro k f hk hf hmu; exact absurd hmu (Nat.not_lt_zero _)
    | succ fu_5 ih_5 =>
      intro k f hk hf hmu_5 H locs ls V hl
      refine lv_iload_n hx hb dJ7_fill_53178_5 rfl (lv_at hl 1 rfl) ?_
      refine lv_iload_n hx hb dJ7_fill_53178_6 rfl (lv_at hl 0 rfl) ?_
      refine lv_icmp_ge (tgt := 20) hx hb dJ7_fill_53178_7 (by decide) (fun c_2 => ?_) (fun c_2 => ?_)
      · skip
        have c_2 := b_le (by omega) (by omega) c_2
        exact g_vret (Qr := (q_fill10 T a x f0)) hC V ⟨(Nat.le_of_ble_eq_true rfl), (Nat.le_of_ble_eq_true rfl)⟩ ⟨f, rfl, rfl, (fun i h => hf i (by omega))⟩ dJ7_fill_53178_20
      · skip
        have c_2 := b_nle (by omega) (by omega) c_2
        refine lv_aload_n hx hb dJ7_fill_53178_10 rfl (lv_at hl 2 rfl) ?_
        refine lv_iload_n hx hb dJ7_fill_53178_11 rfl (lv_at hl 1 rfl) ?_
        refine lv_iload_n hx hb dJ7_fill_53178_12 rfl (lv_at hl 3 rfl) ?_
        refine g_iast hC V 0 rfl (vp_in_nI (by omega) (by omega)) (f' := (upd f k x)) (by rw [nI_clamp (by omega)]) (ws' := [(a, .inl (T 0, 10, .inl (upd f k x)))]) rfl dJ7_fill_53178_13 (fun H locs V => ?_)
        refine lv_iinc (v := (nI (k + 1))) (lv' := [(2, .int (nI (k + 1))), (3, .int (nI 10)), (0, .ref a), (1, .int x)]) hx hb dJ7_fill_53178_14 hl (k := 1) rfl (nI_1 _) (by decide) rfl (fun ls hl => ?_)
        refine lv_goto (tgt := 5) hx hb dJ7_fill_53178_17 (by decide) ?_
        exact ih_5 (k + 1) (upd f k x) (by omega) (up_one (p := fun i y => y = x) hf rfl) (by omega) _ _ _ V (lv_sub hl [1, 0, 2, 3] rfl)
  exact L_1 _ 0 f0 (by omega) (fun i h => absurd h (Nat.not_lt_zero _)) (Nat.lt_succ_self _) _ _ _ V (lv_sub hl [0, 1, 2, 3] rfl)

def q_rd_readStreet (T : Nat → ClassId) (t0 : Nat) (n : Nat) (a0 : Nat) (tf : Nat) (tu : Int32) (tl : Int32) (t1 : Nat) (te : Int32) (tk : Int32) (tr : Int32) (tb : Int32) (tx : Nat → Int32) (an : Int32) (am : Int32) (al : Int32) (ao : Int32) (au : Int32) (a1 : Nat) (a2 : Nat) (a3 : Nat) (a4 : Nat) (a5 : Nat) (a6 : Nat) (a7 : Nat) (a8 : Nat) (a9 : Nat) (a10 : Nat) (af1 : Nat → Int32) (af2 : Nat → Int32) (af3 : Nat → Int32) (af4 : Nat → Int32) (af5 : Nat → Int32) (af6 : Nat → Int32) (af7 : Nat → Int32) (af8 : Nat → Int32) (af9 : Nat → Int32) : Option Value → va_W → Prop := fun rr ww => (∃ (u2 : Int32) (l2 : Int32) (k2 : Int32) (r2 : Nat) (b2 : Nat) (n2 : Nat) (l3 : Int32) (o3 : Int32) (g1 : Nat → Int32) (g2 : Nat → Int32) (g3 : Nat → Int32) (g4 : Nat → Int32) (g5 : Nat → Int32) (g6 : Nat → Int32) (g7 : Nat → Int32) (g8 : Nat → Int32) (g9 : Nat → Int32), rr = none ∧ ww = [(t0, .inr (2, [.int (nI 0), .int u2, .int l2, .ref t1, .int (nI n), .int k2, .int (nI r2), .int (nI b2)])), (t1, .inl (T 3, 900, .inl tx)), (a0, .inr (5, [.int (nI n2), .int (nI 0), .int l3, .int o3, .int (nI 0), .ref a1, .ref a2, .ref a3, .ref a4, .ref a5, .ref a6, .ref a7, .ref a8, .ref a9, .ref a10])), (a1, .inl (T 0, 10, .inl g1)), (a2, .inl (T 0, 10, .inl g2)), (a3, .inl (T 0, 10, .inl g3)), (a4, .inl (T 0, 10, .inl g4)), (a5, .inl (T 0, 10, .inl g5)), (a6, .inl (T 0, 10, .inl g6)), (a7, .inl (T 0, 10, .inl g7)), (a8, .inl (T 0, 10, .inl g8)), (a9, .inl (T 0, 10, .inl g9))] ∧ (r2 ≤ b2 ∧ b2 ≤ n) ∧ n2 ≤ 10 ∧ (∀ i, i < n2 → bd (g9 i) n2))
set_option maxHeartbeats 4000000 in
set_option maxRecDepth 100000 in
theorem rd_readStreet (l : Launch) (D : va_G) (T : Nat → ClassId) (t0 : Nat) (n : Nat) (a0 : Nat) (tf : Nat) (tu : Int32) (tl : Int32) (t1 : Nat) (te : Int32) (tk : Int32) (tr : Int32) (tb : Int32) (tx : Nat → Int32) (an : Int32) (am : Int32) (al : Int32) (ao : Int32) (au : Int32) (a1 : Nat) (a2 : Nat) (a3 : Nat) (a4 : Nat) (a5 : Nat) (a6 : Nat) (a7 : Nat) (a8 : Nat) (a9 : Nat) (a10 : Nat) (af1 : Nat → Int32) (af2 : Nat → Int32) (af3 : Nat → Int32) (af4 : Nat → Int32) (af5 : Nat → Int32) (af6 : Nat → Int32) (af7 : Nat → Int32) (af8 : Nat → Int32) (af9 : Nat → Int32) (h_nf : n ≤ tf) (h_tf : tf ≤ 900) : Ct l yX2_readStreet cX2_readStreet 4 none 7 0 0 D T [.ref t0, .int (nI n), .ref a0] [(t0, .inr (2, [.int (nI tf), .int tu, .int tl, .ref t1, .int te, .int tk, .int tr, .int tb])), (t1, .inl (T 3, 900, .inl tx)), (a0, .inr (5, [.int an, .int am, .int al, .int ao, .int au, .ref a1, .ref a2, .ref a3, .ref a4, .ref a5, .ref a6, .ref a7, .ref a8, .ref a9, .ref a10])), (a1, .inl (T 0, 10, .inl af1)), (a2, .inl (T 0, 10, .inl af2)), (a3, .inl (T 0, 10, .inl af3)), (a4, .inl (T 0, 10, .inl af4)), (a5, .inl (T 0, 10, .inl af5)), (a6, .inl (T 0, 10, .inl af6)), (a7, .inl (T 0, 10, .inl af7)), (a8, .inl (T 0, 10, .inl af8)), (a9, .inl (T 0, 10, .inl af9))] (q_rd_readStreet T t0 n a0 tf tu tl t1 te tk tr tb tx an am al ao au a1 a2 a3 a4 a5 a6 a7 a8 a9 a10 af1 af2 af3 af4 af5 af6 af7 af8 af9) := by
  refine Ct.of (cc := cX2_readStreet) (maxL := 4) (ret := none) (by decide) (Nat.le_of_ble_eq_true rfl) ?_
  intro p e s m args below meth c A ls hC hnm V hl
  obtain ⟨hx, hb, hr, hml, hown, hts, hlocks⟩ := id hC
  generalize hH : s.heap = H at V ⊢
  clear hH
  have hl : lv_has ls 4 [(0, .ref t0), (1, .int (nI n)), (2, .ref a0)] := hl
  generalize hlo : ([] : List Loc) = locs at V ⊢
  clear hlo
  refine lv_aload_n hx hb dX2_readStreet_0 rfl (lv_at hl 0 rfl) ?_
  refine lv_iload_n hx hb dX2_readStreet_1 rfl (lv_at hl 1 rfl) ?_
  refine lv_aload_n hx hb dX2_readStreet_2 rfl (lv_at hl 0 rfl) ?_
  refine g_get hC V (ci := 2) uwX2 0 rfl rfl 0 (by decide) w_129 rfl rfl dX2_readStreet_3 ?_
  refine va_mmin hx hb (hml.trans hl.1.symm) hown (hts _ w_299) (hts _ w_300) (hts _ w_10) (hts _ w_301) (Nat.le_of_ble_eq_true rfl) (Nat.le_of_ble_eq_true rfl) (Nat.le_of_ble_eq_true rfl) (Nat.le_of_ble_eq_true rfl) dX2_readStreet_6 ?_
  refine g_vi (y := (nI n)) (by rw [min_nI (by omega) (by omega), Nat.min_eq_left (by omega)]) ?_
  refine g_put hC V (ci := 2) uwX2 tyX2 tyX2_ok nmX2 0 rfl rfl 4 (by decide) w_135 rfl rfl rfl rfl (Nat.le_of_ble_eq_true rfl) (ws' := [(t0, .inr (2, [.int (nI tf), .int tu, .int tl, .ref t1, .int (nI n), .int tk, .int tr, .int tb])), (t1, .inl (T 3, 900, .inl tx)), (a0, .inr (5, [.int an, .int am, .int al, .int ao, .int au, .ref a1, .ref a2, .ref a3, .ref a4, .ref a5, .ref a6, .ref a7, .ref a8, .ref a9, .ref a10])), (a1, .inl (T 0, 10, .inl af1)), (a2, .inl (T 0, 10, .inl af2)), (a3, .inl (T 0, 10, .inl af3)), (a4, .inl (T 0, 10, .inl af4)), (a5, .inl (T 0, 10, .inl af5)), (a6, .inl (T 0, 10, .inl af6)), (a7, .inl (T 0, 10, .inl af7)), (a8, .inl (T 0, 10, .inl af8)), (a9, .inl (T 0, 10, .inl af9))]) rfl dX2_readStreet_9 (fun H locs V => ?_)
  refine lv_aload_n hx hb dX2_readStreet_12 rfl (lv_at hl 0 rfl) ?_
  refine lv_iconst (v := (nI 0)) hx hb dX2_readStreet_13 (by decide +kernel) ?_
  refine g_put hC V (ci := 2) uwX2 tyX2 tyX2_ok nmX2 0 rfl rfl 0 (by decide) w_129 rfl rfl rfl rfl (Nat.le_of_ble_eq_true rfl) (ws' := [(t0, .inr (2, [.int (nI 0), .int tu, .int tl, .ref t1, .int (nI n), .int tk, .int tr, .int tb])), (t1, .inl (T 3, 900, .inl tx)), (a0, .inr (5, [.int an, .int am, .int al, .int ao, .int au, .ref a1, .ref a2, .ref a3, .ref a4, .ref a5, .ref a6, .ref a7, .ref a8, .ref a9, .ref a10])), (a1, .inl (T 0, 10, .inl af1)), (a2, .inl (T 0, 10, .inl af2)), (a3, .inl (T 0, 10, .inl af3)), (a4, .inl (T 0, 10, .inl af4)), (a5, .inl (T 0, 10, .inl af5)), (a6, .inl (T 0, 10, .inl af6)), (a7, .inl (T 0, 10, .inl af7)), (a8, .inl (T 0, 10, .inl af8)), (a9, .inl (T 0, 10, .inl af9))]) rfl dX2_readStreet_14 (fun H locs V => ?_)
  refine lv_aload_n hx hb dX2_readStreet_17 rfl (lv_at hl 0 rfl) ?_
  refine lv_iconst (v := (nI 0)) hx hb dX2_readStreet_18 (by decide +kernel) ?_
  refine g_put hC V (ci := 2) uwX2 tyX2 tyX2_ok nmX2 0 rfl rfl 7 (by decide) w_138 rfl rfl rfl rfl (Nat.le_of_ble_eq_true rfl) (ws' := [(t0, .inr (2, [.int (nI 0), .int tu, .int tl, .ref t1, .int (nI n), .int tk, .int tr, .int (nI 0)])), (t1, .inl (T 3, 900, .inl tx)), (a0, .inr (5, [.int an, .int am, .int al, .int ao, .int au, .ref a1, .ref a2, .ref a3, .ref a4, .ref a5, .ref a6, .ref a7, .ref a8, .ref a9, .ref a10])), (a1, .inl (T 0, 10, .inl af1)), (a2, .inl (T 0, 10, .inl af2)), (a3, .inl (T 0, 10, .inl af3)), (a4, .inl (T 0, 10, .inl af4)), (a5, .inl (T 0, 10, .inl af5)), (a6, .inl (T 0, 10, .inl af6)), (a7, .inl (T 0, 10, .inl af7)), (a8, .inl (T 0, 10, .inl af8)), (a9, .inl (T 0, 10, .inl af9))]) rfl dX2_readStreet_19 (fun H locs V => ?_)
  refine lv_aload_n hx hb dX2_readStreet_22 rfl (lv_at hl 0 rfl) ?_
  refine lv_iconst (v := (nI 0)) hx hb dX2_readStreet_23 (by decide +kernel) ?_
  refine g_put hC V (ci := 2) uwX2 tyX2 tyX2_ok nmX2 0 rfl rfl 1 (by decide) w_130 rfl rfl rfl rfl (Nat.le_of_ble_eq_true rfl) (ws' := [(t0, .inr (2, [.int (nI 0), .int (nI 0), .int tl, .ref t1, .int (nI n), .int tk, .int tr, .int (nI 0)])), (t1, .inl (T 3, 900, .inl tx)), (a0, .inr (5, [.int an, .int am, .int al, .int ao, .int au, .ref a1, .ref a2, .ref a3, .ref a4, .ref a5, .ref a6, .ref a7, .ref a8, .ref a9, .ref a10])), (a1, .inl (T 0, 10, .inl af1)), (a2, .inl (T 0, 10, .inl af2)), (a3, .inl (T 0, 10, .inl af3)), (a4, .inl (T 0, 10, .inl af4)), (a5, .inl (T 0, 10, .inl af5)), (a6, .inl (T 0, 10, .inl af6)), (a7, .inl (T 0, 10, .inl af7)), (a8, .inl (T 0, 10, .inl af8)), (a9, .inl (T 0, 10, .inl af9))]) rfl dX2_readStreet_24 (fun H locs V => ?_)
  refine lv_aload_n hx hb dX2_readStreet_27 rfl (lv_at hl 0 rfl) ?_
  refine lv_iconst (v := (-1)) hx hb dX2_readStreet_28 (by decide +kernel) ?_
  refine g_put hC V (ci := 2) uwX2 tyX2 tyX2_ok nmX2 0 rfl rfl 2 (by decide) w_132 rfl rfl rfl rfl (Nat.le_of_ble_eq_true rfl) (ws' := [(t0, .inr (2, [.int (nI 0), .int (nI 0), .int (-1), .ref t1, .int (nI n), .int tk, .int tr, .int (nI 0)])), (t1, .inl (T 3, 900, .inl tx)), (a0, .inr (5, [.int an, .int am, .int al, .int ao, .int au, .ref a1, .ref a2, .ref a3, .ref a4, .ref a5, .ref a6, .ref a7, .ref a8, .ref a9, .ref a10])), (a1, .inl (T 0, 10, .inl af1)), (a2, .inl (T 0, 10, .inl af2)), (a3, .inl (T 0, 10, .inl af3)), (a4, .inl (T 0, 10, .inl af4)), (a5, .inl (T 0, 10, .inl af5)), (a6, .inl (T 0, 10, .inl af6)), (a7, .inl (T 0, 10, .inl af7)), (a8, .inl (T 0, 10, .inl af8)), (a9, .inl (T 0, 10, .inl af9))]) rfl dX2_readStreet_29 (fun H locs V => ?_)
  refine lv_aload_n hx hb dX2_readStreet_32 rfl (lv_at hl 2 rfl) ?_
  refine g_callV (wr := [(t0, .inr (2, [.int (nI 0), .int (nI 0), .int (-1), .ref t1, .int (nI n), .int tk, .int tr, .int (nI 0)])), (t1, .inl (T 3, 900, .inl tx)), (a1, .inl (T 0, 10, .inl af1)), (a2, .inl (T 0, 10, .inl af2)), (a3, .inl (T 0, 10, .inl af3)), (a4, .inl (T 0, 10, .inl af4)), (a5, .inl (T 0, 10, .inl af5)), (a6, .inl (T 0, 10, .inl af6)), (a7, .inl (T 0, 10, .inl af7)), (a8, .inl (T 0, 10, .inl af8)), (a9, .inl (T 0, 10, .inl af9))]) (nA := 0) hC V hl.1 (s_clear l D T a0 an am al ao au a1 a2 a3 a4 a5 a6 a7 a8 a9 a10) w_302 w_303 w_304 w_3 w_305 (by decide +kernel) rfl ⟨(Nat.le_of_ble_eq_true rfl), (Nat.le_of_ble_eq_true rfl)⟩ 2 (ci := 5) rfl rfl [2] [0, 1, 3, 4, 5, 6, 7, 8, 9, 10, 11] rfl rfl rfl rfl (by decide) (Nat.le_of_ble_eq_true rfl) dX2_readStreet_33 ⟨(Nat.le_of_ble_eq_true rfl), (Nat.le_of_ble_eq_true rfl)⟩ rfl (fun r w1 H locs hQ V => ?_)
  obtain ⟨rfl, rfl⟩ := hQ
  have V : gW D T A s [(t0, .inr (2, [.int (nI 0), .int (nI 0), .int (-1), .ref t1, .int (nI n), .int tk, .int tr, .int (nI 0)])), (t1, .inl (T 3, 900, .inl tx)), (a1, .inl (T 0, 10, .inl af1)), (a2, .inl (T 0, 10, .inl af2)), (a3, .inl (T 0, 10, .inl af3)), (a4, .inl (T 0, 10, .inl af4)), (a5, .inl (T 0, 10, .inl af5)), (a6, .inl (T 0, 10, .inl af6)), (a7, .inl (T 0, 10, .inl af7)), (a8, .inl (T 0, 10, .inl af8)), (a9, .inl (T 0, 10, .inl af9)), (a0, .inr (5, [.int (nI 0), .int (nI 0), .int (nI 0), .int (nI 20), .int (nI 0), .ref a1, .ref a2, .ref a3, .ref a4, .ref a5, .ref a6, .ref a7, .ref a8, .ref a9, .ref a10]))] H locs := V
  show W p l e _ s m args below meth c H locs _ _ _ (F0 m 36 ls [])
  refine lv_aload_n hx hb dX2_readStreet_36 rfl (lv_at hl 2 rfl) ?_
  refine g_get hC V (ci := 5) uwX5 11 rfl rfl 13 (by decide) w_83 rfl rfl dX2_readStreet_37 ?_
  refine lv_iconst (v := (-1)) hx hb dX2_readStreet_40 (by decide +kernel) ?_
  refine g_callS (wr := [(t0, .inr (2, [.int (nI 0), .int (nI 0), .int (-1), .ref t1, .int (nI n), .int tk, .int tr, .int (nI 0)])), (t1, .inl (T 3, 900, .inl tx)), (a1, .inl (T 0, 10, .inl af1)), (a2, .inl (T 0, 10, .inl af2)), (a3, .inl (T 0, 10, .inl af3)), (a4, .inl (T 0, 10, .inl af4)), (a5, .inl (T 0, 10, .inl af5)), (a6, .inl (T 0, 10, .inl af6)), (a7, .inl (T 0, 10, .inl af7)), (a8, .inl (T 0, 10, .inl af8)), (a0, .inr (5, [.int (nI 0), .int (nI 0), .int (nI 0), .int (nI 20), .int (nI 0), .ref a1, .ref a2, .ref a3, .ref a4, .ref a5, .ref a6, .ref a7, .ref a8, .ref a9, .ref a10]))]) (nA := 2) hC V hl.1 (c_fill10 l D T a9 (-1) af9) w_306 w_307 w_11 w_308 (by decide +kernel) rfl ⟨(Nat.le_of_ble_eq_true rfl), (Nat.le_of_ble_eq_true rfl)⟩ [10] [0, 1, 2, 3, 4, 5, 6, 7, 8, 9, 11] rfl rfl rfl rfl (by decide) (Nat.le_of_ble_eq_true rfl) dX2_readStreet_41 ⟨(Nat.le_of_ble_eq_true rfl), (Nat.le_of_ble_eq_true rfl)⟩ rfl (fun r w1 H locs hQ V => ?_)
  obtain ⟨gf, rfl, rfl, f_1⟩ := hQ
  have V : gW D T A s [(t0, .inr (2, [.int (nI 0), .int (nI 0), .int (-1), .ref t1, .int (nI n), .int tk, .int tr, .int (nI 0)])), (t1, .inl (T 3, 900, .inl tx)), (a1, .inl (T 0, 10, .inl af1)), (a2, .inl (T 0, 10, .inl af2)), (a3, .inl (T 0, 10, .inl af3)), (a4, .inl (T 0, 10, .inl af4)), (a5, .inl (T 0, 10, .inl af5)), (a6, .inl (T 0, 10, .inl af6)), (a7, .inl (T 0, 10, .inl af7)), (a8, .inl (T 0, 10, .inl af8)), (a0, .inr (5, [.int (nI 0), .int (nI 0), .int (nI 0), .int (nI 20), .int (nI 0), .ref a1, .ref a2, .ref a3, .ref a4, .ref a5, .ref a6, .ref a7, .ref a8, .ref a9, .ref a10])), (a9, .inl (T 0, 10, .inl gf))] H locs := V
  show W p l e _ s m args below meth c H locs _ _ _ (F0 m 44 ls [])
  have hft : ∀ i, i < 10 → (bd (gf i) 0 ∨ gf i = -1) := fun i h => Or.inr (f_1 i h)
  refine lv_aload_n hx hb dX2_readStreet_44 rfl (lv_at hl 0 rfl) ?_
  refine g_callV (wr := [(a1, .inl (T 0, 10, .inl af1)), (a2, .inl (T 0, 10, .inl af2)), (a3, .inl (T 0, 10, .inl af3)), (a4, .inl (T 0, 10, .inl af4)), (a5, .inl (T 0, 10, .inl af5)), (a6, .inl (T 0, 10, .inl af6)), (a7, .inl (T 0, 10, .inl af7)), (a8, .inl (T 0, 10, .inl af8)), (a0, .inr (5, [.int (nI 0), .int (nI 0), .int (nI 0), .int (nI 20), .int (nI 0), .ref a1, .ref a2, .ref a3, .ref a4, .ref a5, .ref a6, .ref a7, .ref a8, .ref a9, .ref a10])), (a9, .inl (T 0, 10, .inl gf))]) (nA := 0) hC V hl.1 (rd_next l D T t0 0 (nI 0) (-1) t1 n tk tr 0 tx (by first | assumption | omega) (by first | assumption | omega)) w_309 w_311 w_s0 w_4 w_312 (by decide +kernel) rfl ⟨(Nat.le_of_ble_eq_true rfl), (Nat.le_of_ble_eq_true rfl)⟩ 0 (ci := 2) rfl rfl [0, 1] [2, 3, 4, 5, 6, 7, 8, 9, 10, 11] rfl rfl rfl rfl (by decide) (Nat.le_of_ble_eq_true rfl) dX2_readStreet_45 ⟨(Nat.le_of_ble_eq_true rfl), (Nat.le_of_ble_eq_true rfl)⟩ rfl (fun r w1 H locs hQ V => ?_)
  obtain ⟨u2_2, l2_3, k2_4, r2_5, b2_6, rfl, rfl, f_7, f_8⟩ := hQ
  have V : gW D T A s [(a1, .inl (T 0, 10, .inl af1)), (a2, .inl (T 0, 10, .inl af2)), (a3, .inl (T 0, 10, .inl af3)), (a4, .inl (T 0, 10, .inl af4)), (a5, .inl (T 0, 10, .inl af5)), (a6, .inl (T 0, 10, .inl af6)), (a7, .inl (T 0, 10, .inl af7)), (a8, .inl (T 0, 10, .inl af8)), (a0, .inr (5, [.int (nI 0), .int (nI 0), .int (nI 0), .int (nI 20), .int (nI 0), .ref a1, .ref a2, .ref a3, .ref a4, .ref a5, .ref a6, .ref a7, .ref a8, .ref a9, .ref a10])), (a9, .inl (T 0, 10, .inl gf)), (t0, .inr (2, [.int (nI 0), .int u2_2, .int l2_3, .ref t1, .int (nI n), .int k2_4, .int (nI r2_5), .int (nI b2_6)])), (t1, .inl (T 3, 900, .inl tx))] H locs := V
  show W p l e _ s m args below meth c H locs _ _ _ (F0 m 48 ls [])
  refine lv_iconst (v := (nI 0)) hx hb dX2_readStreet_48 (by decide +kernel) ?_
  refine lv_istore_n (lv' := [(3, .int (nI 0)), (0, .ref t0), (1, .int (nI n)), (2, .ref a0)]) hx hb dX2_readStreet_49 rfl hl (by decide) rfl (fun ls hl => ?_)
  have L_9 : ∀ (fu : Nat) (k : Nat) (ftv : Int32) (plv : Int32) (kdv : Int32) (frv : Nat) (bev : Nat) (nv : Nat) (liv : Int32) (lov : Int32) (b1 : Nat → Int32) (b2_ : Nat → Int32) (b3 : Nat → Int32) (b4 : Nat → Int32) (b5 : Nat → Int32) (b6 : Nat → Int32) (b7 : Nat → Int32) (b8 : Nat → Int32) (b9 : Nat → Int32), k ≤ n + 1 → (frv ≤ bev ∧ bev ≤ n) → nv ≤ 10 → (∀ i, i < 10 → (bd (b9 i) nv ∨ b9 i = -1)) → n + 1 - k < fu → ∀ (H : Heap) (locs : List Loc) (ls : Array Slot), gW D T A s [(a1, .inl (T 0, 10, .inl b1)), (a2, .inl (T 0, 10, .inl b2_)), (a3, .inl (T 0, 10, .inl b3)), (a4, .inl (T 0, 10, .inl b4)), (a5, .inl (T 0, 10, .inl b5)), (a6, .inl (T 0, 10, .inl b6)), (a7, .inl (T 0, 10, .inl b7)), (a8, .inl (T 0, 10, .inl b8)), (a0, .inr (5, [.int (nI nv), .int (nI 0), .int liv, .int lov, .int (nI 0), .ref a1, .ref a2, .ref a3, .ref a4, .ref a5, .ref a6, .ref a7, .ref a8, .ref a9, .ref a10])), (a9, .inl (T 0, 10, .inl b9)), (t0, .inr (2, [.int (nI 0), .int ftv, .int plv, .ref t1, .int (nI n), .int kdv, .int (nI frv), .int (nI bev)])), (t1, .inl (T 3, 900, .inl tx))] H locs → lv_has ls 4 [(3, .int (nI k)), (0, .ref t0), (1, .int (nI n)), (2, .ref a0)] → W p l e (rmD 7 0 0) s m args below meth c H locs 0 0 (MQ below (gQ D A (q_rd_readStreet T t0 n a0 tf tu tl t1 te tk tr tb tx an am al ao au a1 a2 a3 a4 a5 a6 a7 a8 a9 a10 af1 af2 af3 af4 af5 af6 af7 af8 af9)) args s 0 0 A) (F0 m 50 ls []) := by
    intro fu_50
    induction fu_50 with
    | zero => intro k ftv plv kdv frv bev nv liv lov b1 b2_ b3 b4 b5 b6 b7 b8 b9 hk hrb hnv hto hmu; exact absurd hmu (Nat.not_lt_zero _)
    | succ fu_50 ih_50 =>
      intro k ftv plv kdv frv bev nv liv lov b1 b2_ b3 b4 b5 b6 b7 b8 b9 hk hrb hnv hto hmu_50 H locs ls V hl
      refine lv_iload_n hx hb dX2_readStreet_50 rfl (lv_at hl 0 rfl) ?_
      refine lv_aload_n hx hb dX2_readStreet_51 rfl (lv_at hl 1 rfl) ?_
      refine g_get hC V (ci := 2) uwX2 10 rfl rfl 4 (by decide) w_135 rfl rfl dX2_readStreet_52 ?_
      refine lv_icmp_gt (tgt := 150) hx hb dX2_readStreet_55 (by decide) (fun c_10 => ?_) (fun c_10 => ?_)
      · skip
        have c_10 := b_lt (by omega) (by omega) c_10
        refine lv_aload_n hx hb dX2_readStreet_150 rfl (lv_at hl 3 rfl) ?_
        refine g_callV (wr := [(a1, .inl (T 0, 10, .inl b1)), (a2, .inl (T 0, 10, .inl b2_)), (a3, .inl (T 0, 10, .inl b3)), (a4, .inl (T 0, 10, .inl b4)), (a5, .inl (T 0, 10, .inl b5)), (a6, .inl (T 0, 10, .inl b6)), (a7, .inl (T 0, 10, .inl b7)), (a8, .inl (T 0, 10, .inl b8)), (t0, .inr (2, [.int (nI 0), .int ftv, .int plv, .ref t1, .int (nI n), .int kdv, .int (nI frv), .int (nI bev)])), (t1, .inl (T 3, 900, .inl tx))]) (nA := 0) hC V hl.1 (s_lay l D T a0 nv (nI 0) liv lov (nI 0) a1 a2 a3 a4 a5 a6 a7 a8 a9 a10 b9 (by first | assumption | omega) (fun i h => hto i (by omega))) w_409 w_410 w_411 w_3 w_412 (by decide +kernel) rfl ⟨(Nat.le_of_ble_eq_true rfl), (Nat.le_of_ble_eq_true rfl)⟩ 8 (ci := 5) rfl rfl [8, 9] [0, 1, 2, 3, 4, 5, 6, 7, 10, 11] rfl rfl rfl rfl (by decide) (Nat.le_of_ble_eq_true rfl) dX2_readStreet_151 ⟨(Nat.le_of_ble_eq_true rfl), (Nat.le_of_ble_eq_true rfl)⟩ rfl (fun r w1 H locs hQ V => ?_)
        obtain ⟨g_11, rfl, rfl, f_12⟩ := hQ
        have V : gW D T A s [(a1, .inl (T 0, 10, .inl b1)), (a2, .inl (T 0, 10, .inl b2_)), (a3, .inl (T 0, 10, .inl b3)), (a4, .inl (T 0, 10, .inl b4)), (a5, .inl (T 0, 10, .inl b5)), (a6, .inl (T 0, 10, .inl b6)), (a7, .inl (T 0, 10, .inl b7)), (a8, .inl (T 0, 10, .inl b8)), (t0, .inr (2, [.int (nI 0), .int ftv, .int plv, .ref t1, .int (nI n), .int kdv, .int (nI frv), .int (nI bev)])), (t1, .inl (T 3, 900, .inl tx)), (a0, .inr (5, [.int (nI nv), .int (nI 0), .int liv, .int lov, .int (nI 0), .ref a1, .ref a2, .ref a3, .ref a4, .ref a5, .ref a6, .ref a7, .ref a8, .ref a9, .ref a10])), (a9, .inl (T 0, 10, .inl g_11))] H locs := V
        show W p l e _ s m args below meth c H locs _ _ _ (F0 m 154 ls [])
        have V := V.sub (ws' := [(t0, .inr (2, [.int (nI 0), .int ftv, .int plv, .ref t1, .int (nI n), .int kdv, .int (nI frv), .int (nI bev)])), (t1, .inl (T 3, 900, .inl tx)), (a0, .inr (5, [.int (nI nv), .int (nI 0), .int liv, .int lov, .int (nI 0), .ref a1, .ref a2, .ref a3, .ref a4, .ref a5, .ref a6, .ref a7, .ref a8, .ref a9, .ref a10])), (a1, .inl (T 0, 10, .inl b1)), (a2, .inl (T 0, 10, .inl b2_)), (a3, .inl (T 0, 10, .inl b3)), (a4, .inl (T 0, 10, .inl b4)), (a5, .inl (T 0, 10, .inl b5)), (a6, .inl (T 0, 10, .inl b6)), (a7, .inl (T 0, 10, .inl b7)), (a8, .inl (T 0, 10, .inl b8)), (a9, .inl (T 0, 10, .inl g_11))]) [8, 9, 10, 0, 1, 2, 3, 4, 5, 6, 7, 11] rfl rfl
        exact g_vret (Qr := (q_rd_readStreet T t0 n a0 tf tu tl t1 te tk tr tb tx an am al ao au a1 a2 a3 a4 a5 a6 a7 a8 a9 a10 af1 af2 af3 af4 af5 af6 af7 af8 af9)) hC V ⟨(Nat.le_of_ble_eq_true rfl), (Nat.le_of_ble_eq_true rfl)⟩ ⟨ftv, plv, kdv, frv, bev, nv, liv, lov, b1, b2_, b3, b4, b5, b6, b7, b8, g_11, rfl, rfl, (by first | assumption | omega), (by first | assumption | omega), (by first | assumption | omega)⟩ dX2_readStreet_154
      · skip
        have c_10 := b_nlt (by omega) (by omega) c_10
        refine lv_aload_n hx hb dX2_readStreet_58 rfl (lv_at hl 1 rfl) ?_
        refine g_get hC V (ci := 2) uwX2 10 rfl rfl 1 (by decide) w_130 rfl rfl dX2_readStreet_59 ?_
        refine lv_if_ne (tgt := 150) hx hb dX2_readStreet_62 (by decide) (fun c_13 => ?_) (fun c_13 => ?_)
        · skip
          refine lv_aload_n hx hb dX2_readStreet_150 rfl (lv_at hl 3 rfl) ?_
          refine g_callV (wr := [(a1, .inl (T 0, 10, .inl b1)), (a2, .inl (T 0, 10, .inl b2_)), (a3, .inl (T 0, 10, .inl b3)), (a4, .inl (T 0, 10, .inl b4)), (a5, .inl (T 0, 10, .inl b5)), (a6, .inl (T 0, 10, .inl b6)), (a7, .inl (T 0, 10, .inl b7)), (a8, .inl (T 0, 10, .inl b8)), (t0, .inr (2, [.int (nI 0), .int ftv, .int plv, .ref t1, .int (nI n), .int kdv, .int (nI frv), .int (nI bev)])), (t1, .inl (T 3, 900, .inl tx))]) (nA := 0) hC V hl.1 (s_lay l D T a0 nv (nI 0) liv lov (nI 0) a1 a2 a3 a4 a5 a6 a7 a8 a9 a10 b9 (by first | assumption | omega) (fun i h => hto i (by omega))) w_409 w_410 w_411 w_3 w_412 (by decide +kernel) rfl ⟨(Nat.le_of_ble_eq_true rfl), (Nat.le_of_ble_eq_true rfl)⟩ 8 (ci := 5) rfl rfl [8, 9] [0, 1, 2, 3, 4, 5, 6, 7, 10, 11] rfl rfl rfl rfl (by decide) (Nat.le_of_ble_eq_true rfl) dX2_readStreet_151 ⟨(Nat.le_of_ble_eq_true rfl), (Nat.le_of_ble_eq_true rfl)⟩ rfl (fun r w1 H locs hQ V => ?_)
          obtain ⟨g_14, rfl, rfl, f_15⟩ := hQ
          have V : gW D T A s [(a1, .inl (T 0, 10, .inl b1)), (a2, .inl (T 0, 10, .inl b2_)), (a3, .inl (T 0, 10, .inl b3)), (a4, .inl (T 0, 10, .inl b4)), (a5, .inl (T 0, 10, .inl b5)), (a6, .inl (T 0, 10, .inl b6)), (a7, .inl (T 0, 10, .inl b7)), (a8, .inl (T 0, 10, .inl b8)), (t0, .inr (2, [.int (nI 0), .int ftv, .int plv, .ref t1, .int (nI n), .int kdv, .int (nI frv), .int (nI bev)])), (t1, .inl (T 3, 900, .inl tx)), (a0, .inr (5, [.int (nI nv), .int (nI 0), .int liv, .int lov, .int (nI 0), .ref a1, .ref a2, .ref a3, .ref a4, .ref a5, .ref a6, .ref a7, .ref a8, .ref a9, .ref a10])), (a9, .inl (T 0, 10, .inl g_14))] H locs := V
          show W p l e _ s m args below meth c H locs _ _ _ (F0 m 154 ls [])
          have V := V.sub (ws' := [(t0, .inr (2, [.int (nI 0), .int ftv, .int plv, .ref t1, .int (nI n), .int kdv, .int (nI frv), .int (nI bev)])), (t1, .inl (T 3, 900, .inl tx)), (a0, .inr (5, [.int (nI nv), .int (nI 0), .int liv, .int lov, .int (nI 0), .ref a1, .ref a2, .ref a3, .ref a4, .ref a5, .ref a6, .ref a7, .ref a8, .ref a9, .ref a10])), (a1, .inl (T 0, 10, .inl b1)), (a2, .inl (T 0, 10, .inl b2_)), (a3, .inl (T 0, 10, .inl b3)), (a4, .inl (T 0, 10, .inl b4)), (a5, .inl (T 0, 10, .inl b5)), (a6, .inl (T 0, 10, .inl b6)), (a7, .inl (T 0, 10, .inl b7)), (a8, .inl (T 0, 10, .inl b8)), (a9, .inl (T 0, 10, .inl g_14))]) [8, 9, 10, 0, 1, 2, 3, 4, 5, 6, 7, 11] rfl rfl
          exact g_vret (Qr := (q_rd_readStreet T t0 n a0 tf tu tl t1 te tk tr tb tx an am al ao au a1 a2 a3 a4 a5 a6 a7 a8 a9 a10 af1 af2 af3 af4 af5 af6 af7 af8 af9)) hC V ⟨(Nat.le_of_ble_eq_true rfl), (Nat.le_of_ble_eq_true rfl)⟩ ⟨ftv, plv, kdv, frv, bev, nv, liv, lov, b1, b2_, b3, b4, b5, b6, b7, b8, g_14, rfl, rfl, (by first | assumption | omega), (by first | assumption | omega), (by first | assumption | omega)⟩ dX2_readStreet_154
        · skip
          refine lv_aload_n hx hb dX2_readStreet_65 rfl (lv_at hl 1 rfl) ?_
          refine g_get hC V (ci := 2) uwX2 10 rfl rfl 5 (by decide) w_136 rfl rfl dX2_readStreet_66 ?_
          refine lv_iconst (v := (nI 5)) hx hb dX2_readStreet_69 (by decide +kernel) ?_
          refine lv_icmp_eq (tgt := 150) hx hb dX2_readStreet_70 (by decide) (fun c_16 => ?_) (fun c_16 => ?_)
          · skip
            refine lv_aload_n hx hb dX2_readStreet_150 rfl (lv_at hl 3 rfl) ?_
            refine g_callV (wr := [(a1, .inl (T 0, 10, .inl b1)), (a2, .inl (T 0, 10, .inl b2_)), (a3, .inl (T 0, 10, .inl b3)), (a4, .inl (T 0, 10, .inl b4)), (a5, .inl (T 0, 10, .inl b5)), (a6, .inl (T 0, 10, .inl b6)), (a7, .inl (T 0, 10, .inl b7)), (a8, .inl (T 0, 10, .inl b8)), (t0, .inr (2, [.int (nI 0), .int ftv, .int plv, .ref t1, .int (nI n), .int kdv, .int (nI frv), .int (nI bev)])), (t1, .inl (T 3, 900, .inl tx))]) (nA := 0) hC V hl.1 (s_lay l D T a0 nv (nI 0) liv lov (nI 0) a1 a2 a3 a4 a5 a6 a7 a8 a9 a10 b9 (by first | assumption | omega) (fun i h => hto i (by omega))) w_409 w_410 w_411 w_3 w_412 (by decide +kernel) rfl ⟨(Nat.le_of_ble_eq_true rfl), (Nat.le_of_ble_eq_true rfl)⟩ 8 (ci := 5) rfl rfl [8, 9] [0, 1, 2, 3, 4, 5, 6, 7, 10, 11] rfl rfl rfl rfl (by decide) (Nat.le_of_ble_eq_true rfl) dX2_readStreet_151 ⟨(Nat.le_of_ble_eq_true rfl), (Nat.le_of_ble_eq_true rfl)⟩ rfl (fun r w1 H locs hQ V => ?_)
            obtain ⟨g_17, rfl, rfl, f_18⟩ := hQ
            have V : gW D T A s [(a1, .inl (T 0, 10, .inl b1)), (a2, .inl (T 0, 10, .inl b2_)), (a3, .inl (T 0, 10, .inl b3)), (a4, .inl (T 0, 10, .inl b4)), (a5, .inl (T 0, 10, .inl b5)), (a6, .inl (T 0, 10, .inl b6)), (a7, .inl (T 0, 10, .inl b7)), (a8, .inl (T 0, 10, .inl b8)), (t0, .inr (2, [.int (nI 0), .int ftv, .int plv, .ref t1, .int (nI n), .int kdv, .int (nI frv), .int (nI bev)])), (t1, .inl (T 3, 900, .inl tx)), (a0, .inr (5, [.int (nI nv), .int (nI 0), .int liv, .int lov, .int (nI 0), .ref a1, .ref a2, .ref a3, .ref a4, .ref a5, .ref a6, .ref a7, .ref a8, .ref a9, .ref a10])), (a9, .inl (T 0, 10, .inl g_17))] H locs := V
            show W p l e _ s m args below meth c H locs _ _ _ (F0 m 154 ls [])
            have V := V.sub (ws' := [(t0, .inr (2, [.int (nI 0), .int ftv, .int plv, .ref t1, .int (nI n), .int kdv, .int (nI frv), .int (nI bev)])), (t1, .inl (T 3, 900, .inl tx)), (a0, .inr (5, [.int (nI nv), .int (nI 0), .int liv, .int lov, .int (nI 0), .ref a1, .ref a2, .ref a3, .ref a4, .ref a5, .ref a6, .ref a7, .ref a8, .ref a9, .ref a10])), (a1, .inl (T 0, 10, .inl b1)), (a2, .inl (T 0, 10, .inl b2_)), (a3, .inl (T 0, 10, .inl b3)), (a4, .inl (T 0, 10, .inl b4)), (a5, .inl (T 0, 10, .inl b5)), (a6, .inl (T 0, 10, .inl b6)), (a7, .inl (T 0, 10, .inl b7)), (a8, .inl (T 0, 10, .inl b8)), (a9, .inl (T 0, 10, .inl g_17))]) [8, 9, 10, 0, 1, 2, 3, 4, 5, 6, 7, 11] rfl rfl
            exact g_vret (Qr := (q_rd_readStreet T t0 n a0 tf tu tl t1 te tk tr tb tx an am al ao au a1 a2 a3 a4 a5 a6 a7 a8 a9 a10 af1 af2 af3 af4 af5 af6 af7 af8 af9)) hC V ⟨(Nat.le_of_ble_eq_true rfl), (Nat.le_of_ble_eq_true rfl)⟩ ⟨ftv, plv, kdv, frv, bev, nv, liv, lov, b1, b2_, b3, b4, b5, b6, b7, b8, g_17, rfl, rfl, (by first | assumption | omega), (by first | assumption | omega), (by first | assumption | omega)⟩ dX2_readStreet_154
          · skip
            refine lv_aload_n hx hb dX2_readStreet_73 rfl (lv_at hl 1 rfl) ?_
            refine g_ldcS hC V 0 rfl dX2_readStreet_74 ?_
            refine g_callV (wr := [(a1, .inl (T 0, 10, .inl b1)), (a2, .inl (T 0, 10, .inl b2_)), (a3, .inl (T 0, 10, .inl b3)), (a4, .inl (T 0, 10, .inl b4)), (a5, .inl (T 0, 10, .inl b5)), (a6, .inl (T 0, 10, .inl b6)), (a7, .inl (T 0, 10, .inl b7)), (a8, .inl (T 0, 10, .inl b8)), (a0, .inr (5, [.int (nI nv), .int (nI 0), .int liv, .int lov, .int (nI 0), .ref a1, .ref a2, .ref a3, .ref a4, .ref a5, .ref a6, .ref a7, .ref a8, .ref a9, .ref a10])), (a9, .inl (T 0, 10, .inl b9))]) (nA := 1) hC V hl.1 (rd_isWord l D T 0 t0 0 ftv plv t1 n kdv frv bev tx (by first | assumption | omega) (by first | assumption | omega) (by first | assumption | omega)) w_322 w_324 w_s3 w_4 w_325 (by decide +kernel) rfl ⟨(Nat.le_of_ble_eq_true rfl), (Nat.le_of_ble_eq_true rfl)⟩ 10 (ci := 2) rfl rfl [10, 11] [0, 1, 2, 3, 4, 5, 6, 7, 8, 9] rfl rfl rfl rfl (by decide) (Nat.le_of_ble_eq_true rfl) dX2_readStreet_76 ⟨(Nat.le_of_ble_eq_true rfl), (Nat.le_of_ble_eq_true rfl)⟩ rfl (fun r w1 H locs hQ V => ?_)
            rcases hQ with ⟨rfl, rfl⟩ | ⟨rfl, rfl⟩
            · have V : gW D T A s [(a1, .inl (T 0, 10, .inl b1)), (a2, .inl (T 0, 10, .inl b2_)), (a3, .inl (T 0, 10, .inl b3)), (a4, .inl (T 0, 10, .inl b4)), (a5, .inl (T 0, 10, .inl b5)), (a6, .inl (T 0, 10, .inl b6)), (a7, .inl (T 0, 10, .inl b7)), (a8, .inl (T 0, 10, .inl b8)), (a0, .inr (5, [.int (nI nv), .int (nI 0), .int liv, .int lov, .int (nI 0), .ref a1, .ref a2, .ref a3, .ref a4, .ref a5, .ref a6, .ref a7, .ref a8, .ref a9, .ref a10])), (a9, .inl (T 0, 10, .inl b9)), (t0, .inr (2, [.int (nI 0), .int ftv, .int plv, .ref t1, .int (nI n), .int kdv, .int (nI frv), .int (nI bev)])), (t1, .inl (T 3, 900, .inl tx))] H locs := V
              show W p l e _ s m args below meth c H locs _ _ _ (F0 m 79 ls [.int (nI 1)])
              refine lv_if_eq (tgt := 90) hx hb dX2_readStreet_79 (by decide) (fun c => absurd (show (nI 1) = 0 from c) (by decide +kernel)) (fun _ => ?_)
              refine lv_aload_n hx hb dX2_readStreet_82 rfl (lv_at hl 1 rfl) ?_
              refine lv_aload_n hx hb dX2_readStreet_83 rfl (lv_at hl 3 rfl) ?_
              refine g_callV (wr := [(a9, .inl (T 0, 10, .inl b9))]) (nA := 1) hC V hl.1 (rd_readSmith l D T t0 a0 0 ftv plv t1 n kdv frv bev tx nv (nI 0) liv lov (nI 0) a1 a2 a3 a4 a5 a6 a7 a8 a9 a10 b1 b2_ b3 b4 b5 b6 b7 b8 (by first | assumption | omega) (by first | assumption | omega) (by omega)) w_374 w_376 w_s4 w_4 w_377 (by decide +kernel) rfl ⟨(Nat.le_of_ble_eq_true rfl), (Nat.le_of_ble_eq_true rfl)⟩ 10 (ci := 2) rfl rfl [10, 11, 8, 0, 1, 2, 3, 4, 5, 6, 7] [9] rfl rfl rfl rfl (by decide) (Nat.le_of_ble_eq_true rfl) dX2_readStreet_84 ⟨(Nat.le_of_ble_eq_true rfl), (Nat.le_of_ble_eq_true rfl)⟩ rfl (fun r w1 H locs hQ V => ?_)
              obtain ⟨u2_19, l2_20, k2_21, r2_22, b2_23, n2_24, g1_25, g2_26, g3_27, g4_28, g5_29, g6_30, g7_31, g8_32, rfl, rfl, f_33, f_34, f_35⟩ := hQ
              have V : gW D T A s [(a9, .inl (T 0, 10, .inl b9)), (t0, .inr (2, [.int (nI 0), .int u2_19, .int l2_20, .ref t1, .int (nI n), .int k2_21, .int (nI r2_22), .int (nI b2_23)])), (t1, .inl (T 3, 900, .inl tx)), (a0, .inr (5, [.int (nI n2_24), .int (nI 0), .int liv, .int lov, .int (nI 0), .ref a1, .ref a2, .ref a3, .ref a4, .ref a5, .ref a6, .ref a7, .ref a8, .ref a9, .ref a10])), (a1, .inl (T 0, 10, .inl g1_25)), (a2, .inl (T 0, 10, .inl g2_26)), (a3, .inl (T 0, 10, .inl g3_27)), (a4, .inl (T 0, 10, .inl g4_28)), (a5, .inl (T 0, 10, .inl g5_29)), (a6, .inl (T 0, 10, .inl g6_30)), (a7, .inl (T 0, 10, .inl g7_31)), (a8, .inl (T 0, 10, .inl g8_32))] H locs := V
              show W p l e _ s m args below meth c H locs _ _ _ (F0 m 87 ls [])
              refine lv_goto (tgt := 139) hx hb dX2_readStreet_87 (by decide) ?_
              refine lv_aload_n hx hb dX2_readStreet_139 rfl (lv_at hl 1 rfl) ?_
              refine lv_aload_n hx hb dX2_readStreet_140 rfl (lv_at hl 3 rfl) ?_
              refine g_callV (wr := [(a9, .inl (T 0, 10, .inl b9)), (a1, .inl (T 0, 10, .inl g1_25)), (a2, .inl (T 0, 10, .inl g2_26)), (a3, .inl (T 0, 10, .inl g3_27)), (a4, .inl (T 0, 10, .inl g4_28)), (a5, .inl (T 0, 10, .inl g5_29)), (a6, .inl (T 0, 10, .inl g6_30)), (a7, .inl (T 0, 10, .inl g7_31)), (a8, .inl (T 0, 10, .inl g8_32))]) (nA := 1) hC V hl.1 (rd_endLine l D T t0 a0 0 u2_19 l2_20 t1 n k2_21 r2_22 b2_23 tx n2_24 (nI 0) liv lov (nI 0) a1 a2 a3 a4 a5 a6 a7 a8 a9 a10 (by first | assumption | omega) (by first | assumption | omega)) w_405 w_407 w_s8 w_4 w_408 (by decide +kernel) rfl ⟨(Nat.le_of_ble_eq_true rfl), (Nat.le_of_ble_eq_true rfl)⟩ 1 (ci := 2) rfl rfl [1, 2, 3] [0, 4, 5, 6, 7, 8, 9, 10, 11] rfl rfl rfl rfl (by decide) (Nat.le_of_ble_eq_true rfl) dX2_readStreet_141 ⟨(Nat.le_of_ble_eq_true rfl), (Nat.le_of_ble_eq_true rfl)⟩ rfl (fun r w1 H locs hQ V => ?_)
              obtain ⟨u2_36, l2_37, k2_38, r2_39, b2_40, ll_41, rfl, rfl, f_42⟩ := hQ
              have V : gW D T A s [(a9, .inl (T 0, 10, .inl b9)), (a1, .inl (T 0, 10, .inl g1_25)), (a2, .inl (T 0, 10, .inl g2_26)), (a3, .inl (T 0, 10, .inl g3_27)), (a4, .inl (T 0, 10, .inl g4_28)), (a5, .inl (T 0, 10, .inl g5_29)), (a6, .inl (T 0, 10, .inl g6_30)), (a7, .inl (T 0, 10, .inl g7_31)), (a8, .inl (T 0, 10, .inl g8_32)), (t0, .inr (2, [.int (nI 0), .int u2_36, .int l2_37, .ref t1, .int (nI n), .int k2_38, .int (nI r2_39), .int (nI b2_40)])), (t1, .inl (T 3, 900, .inl tx)), (a0, .inr (5, [.int (nI n2_24), .int (nI 0), .int ll_41, .int lov, .int (nI 0), .ref a1, .ref a2, .ref a3, .ref a4, .ref a5, .ref a6, .ref a7, .ref a8, .ref a9, .ref a10]))] H locs := V
              show W p l e _ s m args below meth c H locs _ _ _ (F0 m 144 ls [])
              refine lv_iinc (v := (nI (k + 1))) (lv' := [(3, .int (nI (k + 1))), (0, .ref t0), (1, .int (nI n)), (2, .ref a0)]) hx hb dX2_readStreet_144 hl (k := 0) rfl (nI_1 _) (by decide) rfl (fun ls hl => ?_)
              refine lv_goto (tgt := 50) hx hb dX2_readStreet_147 (by decide) ?_
              exact ih_50 (k + 1) u2_36 l2_37 k2_38 r2_39 b2_40 n2_24 ll_41 lov g1_25 g2_26 g3_27 g4_28 g5_29 g6_30 g7_31 g8_32 b9 (by omega) (by omega) (by omega) (by first | assumption | exact fun i h => (hto i h).elim (fun q => Or.inl (bd_le q (by omega))) Or.inr) (by omega) _ _ _ (V.sub [1, 2, 3, 4, 5, 6, 7, 8, 11, 0, 9, 10] rfl rfl) (lv_sub hl [0, 1, 2, 3] rfl)
            · have V : gW D T A s [(a1, .inl (T 0, 10, .inl b1)), (a2, .inl (T 0, 10, .inl b2_)), (a3, .inl (T 0, 10, .inl b3)), (a4, .inl (T 0, 10, .inl b4)), (a5, .inl (T 0, 10, .inl b5)), (a6, .inl (T 0, 10, .inl b6)), (a7, .inl (T 0, 10, .inl b7)), (a8, .inl (T 0, 10, .inl b8)), (a0, .inr (5, [.int (nI nv), .int (nI 0), .int liv, .int lov, .int (nI 0), .ref a1, .ref a2, .ref a3, .ref a4, .ref a5, .ref a6, .ref a7, .ref a8, .ref a9, .ref a10])), (a9, .inl (T 0, 10, .inl b9)), (t0, .inr (2, [.int (nI 0), .int ftv, .int plv, .ref t1, .int (nI n), .int kdv, .int (nI frv), .int (nI bev)])), (t1, .inl (T 3, 900, .inl tx))] H locs := V
              show W p l e _ s m args below meth c H locs _ _ _ (F0 m 79 ls [.int (nI 0)])
              refine lv_if_eq (tgt := 90) hx hb dX2_readStreet_79 (by decide) (fun _ => ?_) (fun c => absurd (show (nI 0) = 0 by decide +kernel) c)
              refine lv_aload_n hx hb dX2_readStreet_90 rfl (lv_at hl 1 rfl) ?_
              refine g_ldcS hC V 6 rfl dX2_readStreet_91 ?_
              refine g_callV (wr := [(a1, .inl (T 0, 10, .inl b1)), (a2, .inl (T 0, 10, .inl b2_)), (a3, .inl (T 0, 10, .inl b3)), (a4, .inl (T 0, 10, .inl b4)), (a5, .inl (T 0, 10, .inl b5)), (a6, .inl (T 0, 10, .inl b6)), (a7, .inl (T 0, 10, .inl b7)), (a8, .inl (T 0, 10, .inl b8)), (a0, .inr (5, [.int (nI nv), .int (nI 0), .int liv, .int lov, .int (nI 0), .ref a1, .ref a2, .ref a3, .ref a4, .ref a5, .ref a6, .ref a7, .ref a8, .ref a9, .ref a10])), (a9, .inl (T 0, 10, .inl b9))]) (nA := 1) hC V hl.1 (rd_isWord l D T 6 t0 0 ftv plv t1 n kdv frv bev tx (by first | assumption | omega) (by first | assumption | omega) (by first | assumption | omega)) w_322 w_324 w_s3 w_4 w_325 (by decide +kernel) rfl ⟨(Nat.le_of_ble_eq_true rfl), (Nat.le_of_ble_eq_true rfl)⟩ 10 (ci := 2) rfl rfl [10, 11] [0, 1, 2, 3, 4, 5, 6, 7, 8, 9] rfl rfl rfl rfl (by decide) (Nat.le_of_ble_eq_true rfl) dX2_readStreet_93 ⟨(Nat.le_of_ble_eq_true rfl), (Nat.le_of_ble_eq_true rfl)⟩ rfl (fun r w1 H locs hQ V => ?_)
              rcases hQ with ⟨rfl, rfl⟩ | ⟨rfl, rfl⟩
              · have V : gW D T A s [(a1, .inl (T 0, 10, .inl b1)), (a2, .inl (T 0, 10, .inl b2_)), (a3, .inl (T 0, 10, .inl b3)), (a4, .inl (T 0, 10, .inl b4)), (a5, .inl (T 0, 10, .inl b5)), (a6, .inl (T 0, 10, .inl b6)), (a7, .inl (T 0, 10, .inl b7)), (a8, .inl (T 0, 10, .inl b8)), (a0, .inr (5, [.int (nI nv), .int (nI 0), .int liv, .int lov, .int (nI 0), .ref a1, .ref a2, .ref a3, .ref a4, .ref a5, .ref a6, .ref a7, .ref a8, .ref a9, .ref a10])), (a9, .inl (T 0, 10, .inl b9)), (t0, .inr (2, [.int (nI 0), .int ftv, .int plv, .ref t1, .int (nI n), .int kdv, .int (nI frv), .int (nI bev)])), (t1, .inl (T 3, 900, .inl tx))] H locs := V
                show W p l e _ s m args below meth c H locs _ _ _ (F0 m 96 ls [.int (nI 1)])
                refine lv_if_eq (tgt := 107) hx hb dX2_readStreet_96 (by decide) (fun c => absurd (show (nI 1) = 0 from c) (by decide +kernel)) (fun _ => ?_)
                refine lv_aload_n hx hb dX2_readStreet_99 rfl (lv_at hl 1 rfl) ?_
                refine lv_aload_n hx hb dX2_readStreet_100 rfl (lv_at hl 3 rfl) ?_
                refine g_callV (wr := [(a1, .inl (T 0, 10, .inl b1)), (a2, .inl (T 0, 10, .inl b2_)), (a3, .inl (T 0, 10, .inl b3)), (a4, .inl (T 0, 10, .inl b4)), (a5, .inl (T 0, 10, .inl b5)), (a6, .inl (T 0, 10, .inl b6)), (a7, .inl (T 0, 10, .inl b7)), (a8, .inl (T 0, 10, .inl b8))]) (nA := 1) hC V hl.1 (rd_readBlows l D T t0 a0 0 ftv plv t1 n kdv frv bev tx nv (nI 0) liv lov (nI 0) a1 a2 a3 a4 a5 a6 a7 a8 a9 a10 b9 (by first | assumption | omega) (by first | assumption | omega) (by first | assumption | omega) hto) w_400 w_402 w_s7 w_4 w_403 (by decide +kernel) rfl ⟨(Nat.le_of_ble_eq_true rfl), (Nat.le_of_ble_eq_true rfl)⟩ 10 (ci := 2) rfl rfl [10, 11, 8, 9] [0, 1, 2, 3, 4, 5, 6, 7] rfl rfl rfl rfl (by decide) (Nat.le_of_ble_eq_true rfl) dX2_readStreet_101 ⟨(Nat.le_of_ble_eq_true rfl), (Nat.le_of_ble_eq_true rfl)⟩ rfl (fun r w1 H locs hQ V => ?_)
                obtain ⟨u2_43, l2_44, k2_45, r2_46, b2_47, g_48, rfl, rfl, f_49, f_50⟩ := hQ
                have V : gW D T A s [(a1, .inl (T 0, 10, .inl b1)), (a2, .inl (T 0, 10, .inl b2_)), (a3, .inl (T 0, 10, .inl b3)), (a4, .inl (T 0, 10, .inl b4)), (a5, .inl (T 0, 10, .inl b5)), (a6, .inl (T 0, 10, .inl b6)), (a7, .inl (T 0, 10, .inl b7)), (a8, .inl (T 0, 10, .inl b8)), (t0, .inr (2, [.int (nI 0), .int u2_43, .int l2_44, .ref t1, .int (nI n), .int k2_45, .int (nI r2_46), .int (nI b2_47)])), (t1, .inl (T 3, 900, .inl tx)), (a0, .inr (5, [.int (nI nv), .int (nI 0), .int liv, .int lov, .int (nI 0), .ref a1, .ref a2, .ref a3, .ref a4, .ref a5, .ref a6, .ref a7, .ref a8, .ref a9, .ref a10])), (a9, .inl (T 0, 10, .inl g_48))] H locs := V
                show W p l e _ s m args below meth c H locs _ _ _ (F0 m 104 ls [])
                refine lv_goto (tgt := 139) hx hb dX2_readStreet_104 (by decide) ?_
                refine lv_aload_n hx hb dX2_readStreet_139 rfl (lv_at hl 1 rfl) ?_
                refine lv_aload_n hx hb dX2_readStreet_140 rfl (lv_at hl 3 rfl) ?_
                refine g_callV (wr := [(a1, .inl (T 0, 10, .inl b1)), (a2, .inl (T 0, 10, .inl b2_)), (a3, .inl (T 0, 10, .inl b3)), (a4, .inl (T 0, 10, .inl b4)), (a5, .inl (T 0, 10, .inl b5)), (a6, .inl (T 0, 10, .inl b6)), (a7, .inl (T 0, 10, .inl b7)), (a8, .inl (T 0, 10, .inl b8)), (a9, .inl (T 0, 10, .inl g_48))]) (nA := 1) hC V hl.1 (rd_endLine l D T t0 a0 0 u2_43 l2_44 t1 n k2_45 r2_46 b2_47 tx nv (nI 0) liv lov (nI 0) a1 a2 a3 a4 a5 a6 a7 a8 a9 a10 (by first | assumption | omega) (by first | assumption | omega)) w_405 w_407 w_s8 w_4 w_408 (by decide +kernel) rfl ⟨(Nat.le_of_ble_eq_true rfl), (Nat.le_of_ble_eq_true rfl)⟩ 8 (ci := 2) rfl rfl [8, 9, 10] [0, 1, 2, 3, 4, 5, 6, 7, 11] rfl rfl rfl rfl (by decide) (Nat.le_of_ble_eq_true rfl) dX2_readStreet_141 ⟨(Nat.le_of_ble_eq_true rfl), (Nat.le_of_ble_eq_true rfl)⟩ rfl (fun r w1 H locs hQ V => ?_)
                obtain ⟨u2_51, l2_52, k2_53, r2_54, b2_55, ll_56, rfl, rfl, f_57⟩ := hQ
                have V : gW D T A s [(a1, .inl (T 0, 10, .inl b1)), (a2, .inl (T 0, 10, .inl b2_)), (a3, .inl (T 0, 10, .inl b3)), (a4, .inl (T 0, 10, .inl b4)), (a5, .inl (T 0, 10, .inl b5)), (a6, .inl (T 0, 10, .inl b6)), (a7, .inl (T 0, 10, .inl b7)), (a8, .inl (T 0, 10, .inl b8)), (a9, .inl (T 0, 10, .inl g_48)), (t0, .inr (2, [.int (nI 0), .int u2_51, .int l2_52, .ref t1, .int (nI n), .int k2_53, .int (nI r2_54), .int (nI b2_55)])), (t1, .inl (T 3, 900, .inl tx)), (a0, .inr (5, [.int (nI nv), .int (nI 0), .int ll_56, .int lov, .int (nI 0), .ref a1, .ref a2, .ref a3, .ref a4, .ref a5, .ref a6, .ref a7, .ref a8, .ref a9, .ref a10]))] H locs := V
                show W p l e _ s m args below meth c H locs _ _ _ (F0 m 144 ls [])
                refine lv_iinc (v := (nI (k + 1))) (lv' := [(3, .int (nI (k + 1))), (0, .ref t0), (1, .int (nI n)), (2, .ref a0)]) hx hb dX2_readStreet_144 hl (k := 0) rfl (nI_1 _) (by decide) rfl (fun ls hl => ?_)
                refine lv_goto (tgt := 50) hx hb dX2_readStreet_147 (by decide) ?_
                exact ih_50 (k + 1) u2_51 l2_52 k2_53 r2_54 b2_55 nv ll_56 lov b1 b2_ b3 b4 b5 b6 b7 b8 g_48 (by omega) (by omega) (by omega) (by first | assumption | exact fun i h => (hto i h).elim (fun q => Or.inl (bd_le q (by omega))) Or.inr) (by omega) _ _ _ (V.sub [0, 1, 2, 3, 4, 5, 6, 7, 11, 8, 9, 10] rfl rfl) (lv_sub hl [0, 1, 2, 3] rfl)
              · have V : gW D T A s [(a1, .inl (T 0, 10, .inl b1)), (a2, .inl (T 0, 10, .inl b2_)), (a3, .inl (T 0, 10, .inl b3)), (a4, .inl (T 0, 10, .inl b4)), (a5, .inl (T 0, 10, .inl b5)), (a6, .inl (T 0, 10, .inl b6)), (a7, .inl (T 0, 10, .inl b7)), (a8, .inl (T 0, 10, .inl b8)), (a0, .inr (5, [.int (nI nv), .int (nI 0), .int liv, .int lov, .int (nI 0), .ref a1, .ref a2, .ref a3, .ref a4, .ref a5, .ref a6, .ref a7, .ref a8, .ref a9, .ref a10])), (a9, .inl (T 0, 10, .inl b9)), (t0, .inr (2, [.int (nI 0), .int ftv, .int plv, .ref t1, .int (nI n), .int kdv, .int (nI frv), .int (nI bev)])), (t1, .inl (T 3, 900, .inl tx))] H locs := V
                show W p l e _ s m args below meth c H locs _ _ _ (F0 m 96 ls [.int (nI 0)])
                refine lv_if_eq (tgt := 107) hx hb dX2_readStreet_96 (by decide) (fun _ => ?_) (fun c => absurd (show (nI 0) = 0 by decide +kernel) c)
                refine lv_aload_n hx hb dX2_readStreet_107 rfl (lv_at hl 1 rfl) ?_
                refine g_ldcS hC V 7 rfl dX2_readStreet_108 ?_
                refine g_callV (wr := [(a1, .inl (T 0, 10, .inl b1)), (a2, .inl (T 0, 10, .inl b2_)), (a3, .inl (T 0, 10, .inl b3)), (a4, .inl (T 0, 10, .inl b4)), (a5, .inl (T 0, 10, .inl b5)), (a6, .inl (T 0, 10, .inl b6)), (a7, .inl (T 0, 10, .inl b7)), (a8, .inl (T 0, 10, .inl b8)), (a0, .inr (5, [.int (nI nv), .int (nI 0), .int liv, .int lov, .int (nI 0), .ref a1, .ref a2, .ref a3, .ref a4, .ref a5, .ref a6, .ref a7, .ref a8, .ref a9, .ref a10])), (a9, .inl (T 0, 10, .inl b9))]) (nA := 1) hC V hl.1 (rd_isWord l D T 7 t0 0 ftv plv t1 n kdv frv bev tx (by first | assumption | omega) (by first | assumption | omega) (by first | assumption | omega)) w_322 w_324 w_s3 w_4 w_325 (by decide +kernel) rfl ⟨(Nat.le_of_ble_eq_true rfl), (Nat.le_of_ble_eq_true rfl)⟩ 10 (ci := 2) rfl rfl [10, 11] [0, 1, 2, 3, 4, 5, 6, 7, 8, 9] rfl rfl rfl rfl (by decide) (Nat.le_of_ble_eq_true rfl) dX2_readStreet_110 ⟨(Nat.le_of_ble_eq_true rfl), (Nat.le_of_ble_eq_true rfl)⟩ rfl (fun r w1 H locs hQ V => ?_)
                rcases hQ with ⟨rfl, rfl⟩ | ⟨rfl, rfl⟩
                · have V : gW D T A s [(a1, .inl (T 0, 10, .inl b1)), (a2, .inl (T 0, 10, .inl b2_)), (a3, .inl (T 0, 10, .inl b3)), (a4, .inl (T 0, 10, .inl b4)), (a5, .inl (T 0, 10, .inl b5)), (a6, .inl (T 0, 10, .inl b6)), (a7, .inl (T 0, 10, .inl b7)), (a8, .inl (T 0, 10, .inl b8)), (a0, .inr (5, [.int (nI nv), .int (nI 0), .int liv, .int lov, .int (nI 0), .ref a1, .ref a2, .ref a3, .ref a4, .ref a5, .ref a6, .ref a7, .ref a8, .ref a9, .ref a10])), (a9, .inl (T 0, 10, .inl b9)), (t0, .inr (2, [.int (nI 0), .int ftv, .int plv, .ref t1, .int (nI n), .int kdv, .int (nI frv), .int (nI bev)])), (t1, .inl (T 3, 900, .inl tx))] H locs := V
                  show W p l e _ s m args below meth c H locs _ _ _ (F0 m 113 ls [.int (nI 1)])
                  refine lv_if_eq (tgt := 134) hx hb dX2_readStreet_113 (by decide) (fun c => absurd (show (nI 1) = 0 from c) (by decide +kernel)) (fun _ => ?_)
                  refine lv_aload_n hx hb dX2_readStreet_116 rfl (lv_at hl 1 rfl) ?_
                  refine g_callV (wr := [(a1, .inl (T 0, 10, .inl b1)), (a2, .inl (T 0, 10, .inl b2_)), (a3, .inl (T 0, 10, .inl b3)), (a4, .inl (T 0, 10, .inl b4)), (a5, .inl (T 0, 10, .inl b5)), (a6, .inl (T 0, 10, .inl b6)), (a7, .inl (T 0, 10, .inl b7)), (a8, .inl (T 0, 10, .inl b8)), (a0, .inr (5, [.int (nI nv), .int (nI 0), .int liv, .int lov, .int (nI 0), .ref a1, .ref a2, .ref a3, .ref a4, .ref a5, .ref a6, .ref a7, .ref a8, .ref a9, .ref a10])), (a9, .inl (T 0, 10, .inl b9))]) (nA := 0) hC V hl.1 (rd_next l D T t0 0 ftv plv t1 n kdv (nI frv) bev tx (by first | assumption | omega) (by first | assumption | omega)) w_309 w_311 w_s0 w_4 w_312 (by decide +kernel) rfl ⟨(Nat.le_of_ble_eq_true rfl), (Nat.le_of_ble_eq_true rfl)⟩ 10 (ci := 2) rfl rfl [10, 11] [0, 1, 2, 3, 4, 5, 6, 7, 8, 9] rfl rfl rfl rfl (by decide) (Nat.le_of_ble_eq_true rfl) dX2_readStreet_117 ⟨(Nat.le_of_ble_eq_true rfl), (Nat.le_of_ble_eq_true rfl)⟩ rfl (fun r w1 H locs hQ V => ?_)
                  obtain ⟨u2_58, l2_59, k2_60, r2_61, b2_62, rfl, rfl, f_63, f_64⟩ := hQ
                  have V : gW D T A s [(a1, .inl (T 0, 10, .inl b1)), (a2, .inl (T 0, 10, .inl b2_)), (a3, .inl (T 0, 10, .inl b3)), (a4, .inl (T 0, 10, .inl b4)), (a5, .inl (T 0, 10, .inl b5)), (a6, .inl (T 0, 10, .inl b6)), (a7, .inl (T 0, 10, .inl b7)), (a8, .inl (T 0, 10, .inl b8)), (a0, .inr (5, [.int (nI nv), .int (nI 0), .int liv, .int lov, .int (nI 0), .ref a1, .ref a2, .ref a3, .ref a4, .ref a5, .ref a6, .ref a7, .ref a8, .ref a9, .ref a10])), (a9, .inl (T 0, 10, .inl b9)), (t0, .inr (2, [.int (nI 0), .int u2_58, .int l2_59, .ref t1, .int (nI n), .int k2_60, .int (nI r2_61), .int (nI b2_62)])), (t1, .inl (T 3, 900, .inl tx))] H locs := V
                  show W p l e _ s m args below meth c H locs _ _ _ (F0 m 120 ls [])
                  refine lv_aload_n hx hb dX2_readStreet_120 rfl (lv_at hl 3 rfl) ?_
                  refine lv_aload_n hx hb dX2_readStreet_121 rfl (lv_at hl 1 rfl) ?_
                  refine lv_iconst (v := (nI 0)) hx hb dX2_readStreet_122 (by decide +kernel) ?_
                  refine lv_bipush (v := (nI 20)) hx hb dX2_readStreet_123 (by decide +kernel) ?_
                  refine g_callV (wr := [(a1, .inl (T 0, 10, .inl b1)), (a2, .inl (T 0, 10, .inl b2_)), (a3, .inl (T 0, 10, .inl b3)), (a4, .inl (T 0, 10, .inl b4)), (a5, .inl (T 0, 10, .inl b5)), (a6, .inl (T 0, 10, .inl b6)), (a7, .inl (T 0, 10, .inl b7)), (a8, .inl (T 0, 10, .inl b8)), (a0, .inr (5, [.int (nI nv), .int (nI 0), .int liv, .int lov, .int (nI 0), .ref a1, .ref a2, .ref a3, .ref a4, .ref a5, .ref a6, .ref a7, .ref a8, .ref a9, .ref a10])), (a9, .inl (T 0, 10, .inl b9))]) (nA := 2) hC V hl.1 (rd_takeNumber l D T t0 (nI 0) (nI 20) 0 u2_58 l2_59 t1 n k2_60 r2_61 b2_62 tx (by first | assumption | omega) (by first | assumption | omega)) w_378 w_380 w_s5 w_4 w_381 (by decide +kernel) rfl ⟨(Nat.le_of_ble_eq_true rfl), (Nat.le_of_ble_eq_true rfl)⟩ 10 (ci := 2) rfl rfl [10, 11] [0, 1, 2, 3, 4, 5, 6, 7, 8, 9] rfl rfl rfl rfl (by decide) (Nat.le_of_ble_eq_true rfl) dX2_readStreet_125 ⟨(Nat.le_of_ble_eq_true rfl), (Nat.le_of_ble_eq_true rfl)⟩ rfl (fun r w1 H locs hQ V => ?_)
                  obtain ⟨z_65, u2_66, l2_67, k2_68, r2_69, b2_70, rfl, rfl, f_71, f_72, f_73⟩ := hQ
                  have V : gW D T A s [(a1, .inl (T 0, 10, .inl b1)), (a2, .inl (T 0, 10, .inl b2_)), (a3, .inl (T 0, 10, .inl b3)), (a4, .inl (T 0, 10, .inl b4)), (a5, .inl (T 0, 10, .inl b5)), (a6, .inl (T 0, 10, .inl b6)), (a7, .inl (T 0, 10, .inl b7)), (a8, .inl (T 0, 10, .inl b8)), (a0, .inr (5, [.int (nI nv), .int (nI 0), .int liv, .int lov, .int (nI 0), .ref a1, .ref a2, .ref a3, .ref a4, .ref a5, .ref a6, .ref a7, .ref a8, .ref a9, .ref a10])), (a9, .inl (T 0, 10, .inl b9)), (t0, .inr (2, [.int (nI 0), .int u2_66, .int l2_67, .ref t1, .int (nI n), .int k2_68, .int (nI r2_69), .int (nI b2_70)])), (t1, .inl (T 3, 900, .inl tx))] H locs := V
                  show W p l e _ s m args below meth c H locs _ _ _ (F0 m 128 ls [.int z_65, .ref a0])
                  refine g_put hC V (ci := 5) uwX5 tyX5 tyX5_ok nmX5 8 rfl rfl 3 (by decide) w_46 rfl rfl rfl rfl (Nat.le_of_ble_eq_true rfl) (ws' := [(a1, .inl (T 0, 10, .inl b1)), (a2, .inl (T 0, 10, .inl b2_)), (a3, .inl (T 0, 10, .inl b3)), (a4, .inl (T 0, 10, .inl b4)), (a5, .inl (T 0, 10, .inl b5)), (a6, .inl (T 0, 10, .inl b6)), (a7, .inl (T 0, 10, .inl b7)), (a8, .inl (T 0, 10, .inl b8)), (a0, .inr (5, [.int (nI nv), .int (nI 0), .int liv, .int z_65, .int (nI 0), .ref a1, .ref a2, .ref a3, .ref a4, .ref a5, .ref a6, .ref a7, .ref a8, .ref a9, .ref a10])), (a9, .inl (T 0, 10, .inl b9)), (t0, .inr (2, [.int (nI 0), .int u2_66, .int l2_67, .ref t1, .int (nI n), .int k2_68, .int (nI r2_69), .int (nI b2_70)])), (t1, .inl (T 3, 900, .inl tx))]) rfl dX2_readStreet_128 (fun H locs V => ?_)
                  refine lv_goto (tgt := 139) hx hb dX2_readStreet_131 (by decide) ?_
                  refine lv_aload_n hx hb dX2_readStreet_139 rfl (lv_at hl 1 rfl) ?_
                  refine lv_aload_n hx hb dX2_readStreet_140 rfl (lv_at hl 3 rfl) ?_
                  refine g_callV (wr := [(a1, .inl (T 0, 10, .inl b1)), (a2, .inl (T 0, 10, .inl b2_)), (a3, .inl (T 0, 10, .inl b3)), (a4, .inl (T 0, 10, .inl b4)), (a5, .inl (T 0, 10, .inl b5)), (a6, .inl (T 0, 10, .inl b6)), (a7, .inl (T 0, 10, .inl b7)), (a8, .inl (T 0, 10, .inl b8)), (a9, .inl (T 0, 10, .inl b9))]) (nA := 1) hC V hl.1 (rd_endLine l D T t0 a0 0 u2_66 l2_67 t1 n k2_68 r2_69 b2_70 tx nv (nI 0) liv z_65 (nI 0) a1 a2 a3 a4 a5 a6 a7 a8 a9 a10 (by first | assumption | omega) (by first | assumption | omega)) w_405 w_407 w_s8 w_4 w_408 (by decide +kernel) rfl ⟨(Nat.le_of_ble_eq_true rfl), (Nat.le_of_ble_eq_true rfl)⟩ 10 (ci := 2) rfl rfl [10, 11, 8] [0, 1, 2, 3, 4, 5, 6, 7, 9] rfl rfl rfl rfl (by decide) (Nat.le_of_ble_eq_true rfl) dX2_readStreet_141 ⟨(Nat.le_of_ble_eq_true rfl), (Nat.le_of_ble_eq_true rfl)⟩ rfl (fun r w1 H locs hQ V => ?_)
                  obtain ⟨u2_74, l2_75, k2_76, r2_77, b2_78, ll_79, rfl, rfl, f_80⟩ := hQ
                  have V : gW D T A s [(a1, .inl (T 0, 10, .inl b1)), (a2, .inl (T 0, 10, .inl b2_)), (a3, .inl (T 0, 10, .inl b3)), (a4, .inl (T 0, 10, .inl b4)), (a5, .inl (T 0, 10, .inl b5)), (a6, .inl (T 0, 10, .inl b6)), (a7, .inl (T 0, 10, .inl b7)), (a8, .inl (T 0, 10, .inl b8)), (a9, .inl (T 0, 10, .inl b9)), (t0, .inr (2, [.int (nI 0), .int u2_74, .int l2_75, .ref t1, .int (nI n), .int k2_76, .int (nI r2_77), .int (nI b2_78)])), (t1, .inl (T 3, 900, .inl tx)), (a0, .inr (5, [.int (nI nv), .int (nI 0), .int ll_79, .int z_65, .int (nI 0), .ref a1, .ref a2, .ref a3, .ref a4, .ref a5, .ref a6, .ref a7, .ref a8, .ref a9, .ref a10]))] H locs := V
                  show W p l e _ s m args below meth c H locs _ _ _ (F0 m 144 ls [])
                  refine lv_iinc (v := (nI (k + 1))) (lv' := [(3, .int (nI (k + 1))), (0, .ref t0), (1, .int (nI n)), (2, .ref a0)]) hx hb dX2_readStreet_144 hl (k := 0) rfl (nI_1 _) (by decide) rfl (fun ls hl => ?_)
                  refine lv_goto (tgt := 50) hx hb dX2_readStreet_147 (by decide) ?_
                  exact ih_50 (k + 1) u2_74 l2_75 k2_76 r2_77 b2_78 nv ll_79 z_65 b1 b2_ b3 b4 b5 b6 b7 b8 b9 (by omega) (by omega) (by omega) (by first | assumption | exact fun i h => (hto i h).elim (fun q => Or.inl (bd_le q (by omega))) Or.inr) (by omega) _ _ _ (V.sub [0, 1, 2, 3, 4, 5, 6, 7, 11, 8, 9, 10] rfl rfl) (lv_sub hl [0, 1, 2, 3] rfl)
                · have V : gW D T A s [(a1, .inl (T 0, 10, .inl b1)), (a2, .inl (T 0, 10, .inl b2_)), (a3, .inl (T 0, 10, .inl b3)), (a4, .inl (T 0, 10, .inl b4)), (a5, .inl (T 0, 10, .inl b5)), (a6, .inl (T 0, 10, .inl b6)), (a7, .inl (T 0, 10, .inl b7)), (a8, .inl (T 0, 10, .inl b8)), (a0, .inr (5, [.int (nI nv), .int (nI 0), .int liv, .int lov, .int (nI 0), .ref a1, .ref a2, .ref a3, .ref a4, .ref a5, .ref a6, .ref a7, .ref a8, .ref a9, .ref a10])), (a9, .inl (T 0, 10, .inl b9)), (t0, .inr (2, [.int (nI 0), .int ftv, .int plv, .ref t1, .int (nI n), .int kdv, .int (nI frv), .int (nI bev)])), (t1, .inl (T 3, 900, .inl tx))] H locs := V
                  show W p l e _ s m args below meth c H locs _ _ _ (F0 m 113 ls [.int (nI 0)])
                  refine lv_if_eq (tgt := 134) hx hb dX2_readStreet_113 (by decide) (fun _ => ?_) (fun c => absurd (show (nI 0) = 0 by decide +kernel) c)
                  refine lv_aload_n hx hb dX2_readStreet_134 rfl (lv_at hl 1 rfl) ?_
                  refine lv_iconst (v := (nI 2)) hx hb dX2_readStreet_135 (by decide +kernel) ?_
                  refine g_callV (wr := [(a1, .inl (T 0, 10, .inl b1)), (a2, .inl (T 0, 10, .inl b2_)), (a3, .inl (T 0, 10, .inl b3)), (a4, .inl (T 0, 10, .inl b4)), (a5, .inl (T 0, 10, .inl b5)), (a6, .inl (T 0, 10, .inl b6)), (a7, .inl (T 0, 10, .inl b7)), (a8, .inl (T 0, 10, .inl b8)), (a0, .inr (5, [.int (nI nv), .int (nI 0), .int liv, .int lov, .int (nI 0), .ref a1, .ref a2, .ref a3, .ref a4, .ref a5, .ref a6, .ref a7, .ref a8, .ref a9, .ref a10])), (a9, .inl (T 0, 10, .inl b9)), (t1, .inl (T 3, 900, .inl tx))]) (nA := 1) hC V hl.1 (rd_fail l D T t0 (nI 2) 0 ftv plv t1 n kdv frv bev (by decide +kernel)) w_317 w_319 w_s2 w_4 w_320 (by decide +kernel) rfl ⟨(Nat.le_of_ble_eq_true rfl), (Nat.le_of_ble_eq_true rfl)⟩ 10 (ci := 2) rfl rfl [10] [0, 1, 2, 3, 4, 5, 6, 7, 8, 9, 11] rfl rfl rfl rfl (by decide) (Nat.le_of_ble_eq_true rfl) dX2_readStreet_136 ⟨(Nat.le_of_ble_eq_true rfl), (Nat.le_of_ble_eq_true rfl)⟩ rfl (fun r w1 H locs hQ V => ?_)
                  obtain ⟨u2_81, l2_82, rfl, rfl, f_83⟩ := hQ
                  have V : gW D T A s [(a1, .inl (T 0, 10, .inl b1)), (a2, .inl (T 0, 10, .inl b2_)), (a3, .inl (T 0, 10, .inl b3)), (a4, .inl (T 0, 10, .inl b4)), (a5, .inl (T 0, 10, .inl b5)), (a6, .inl (T 0, 10, .inl b6)), (a7, .inl (T 0, 10, .inl b7)), (a8, .inl (T 0, 10, .inl b8)), (a0, .inr (5, [.int (nI nv), .int (nI 0), .int liv, .int lov, .int (nI 0), .ref a1, .ref a2, .ref a3, .ref a4, .ref a5, .ref a6, .ref a7, .ref a8, .ref a9, .ref a10])), (a9, .inl (T 0, 10, .inl b9)), (t1, .inl (T 3, 900, .inl tx)), (t0, .inr (2, [.int (nI 0), .int u2_81, .int l2_82, .ref t1, .int (nI n), .int kdv, .int (nI frv), .int (nI bev)]))] H locs := V
                  show W p l e _ s m args below meth c H locs _ _ _ (F0 m 139 ls [])
                  refine lv_aload_n hx hb dX2_readStreet_139 rfl (lv_at hl 1 rfl) ?_
                  refine lv_aload_n hx hb dX2_readStreet_140 rfl (lv_at hl 3 rfl) ?_
                  refine g_callV (wr := [(a1, .inl (T 0, 10, .inl b1)), (a2, .inl (T 0, 10, .inl b2_)), (a3, .inl (T 0, 10, .inl b3)), (a4, .inl (T 0, 10, .inl b4)), (a5, .inl (T 0, 10, .inl b5)), (a6, .inl (T 0, 10, .inl b6)), (a7, .inl (T 0, 10, .inl b7)), (a8, .inl (T 0, 10, .inl b8)), (a9, .inl (T 0, 10, .inl b9))]) (nA := 1) hC V hl.1 (rd_endLine l D T t0 a0 0 u2_81 l2_82 t1 n kdv frv bev tx nv (nI 0) liv lov (nI 0) a1 a2 a3 a4 a5 a6 a7 a8 a9 a10 (by first | assumption | omega) (by first | assumption | omega)) w_405 w_407 w_s8 w_4 w_408 (by decide +kernel) rfl ⟨(Nat.le_of_ble_eq_true rfl), (Nat.le_of_ble_eq_true rfl)⟩ 11 (ci := 2) rfl rfl [11, 10, 8] [0, 1, 2, 3, 4, 5, 6, 7, 9] rfl rfl rfl rfl (by decide) (Nat.le_of_ble_eq_true rfl) dX2_readStreet_141 ⟨(Nat.le_of_ble_eq_true rfl), (Nat.le_of_ble_eq_true rfl)⟩ rfl (fun r w1 H locs hQ V => ?_)
                  obtain ⟨u2_84, l2_85, k2_86, r2_87, b2_88, ll_89, rfl, rfl, f_90⟩ := hQ
                  have V : gW D T A s [(a1, .inl (T 0, 10, .inl b1)), (a2, .inl (T 0, 10, .inl b2_)), (a3, .inl (T 0, 10, .inl b3)), (a4, .inl (T 0, 10, .inl b4)), (a5, .inl (T 0, 10, .inl b5)), (a6, .inl (T 0, 10, .inl b6)), (a7, .inl (T 0, 10, .inl b7)), (a8, .inl (T 0, 10, .inl b8)), (a9, .inl (T 0, 10, .inl b9)), (t0, .inr (2, [.int (nI 0), .int u2_84, .int l2_85, .ref t1, .int (nI n), .int k2_86, .int (nI r2_87), .int (nI b2_88)])), (t1, .inl (T 3, 900, .inl tx)), (a0, .inr (5, [.int (nI nv), .int (nI 0), .int ll_89, .int lov, .int (nI 0), .ref a1, .ref a2, .ref a3, .ref a4, .ref a5, .ref a6, .ref a7, .ref a8, .ref a9, .ref a10]))] H locs := V
                  show W p l e _ s m args below meth c H locs _ _ _ (F0 m 144 ls [])
                  refine lv_iinc (v := (nI (k + 1))) (lv' := [(3, .int (nI (k + 1))), (0, .ref t0), (1, .int (nI n)), (2, .ref a0)]) hx hb dX2_readStreet_144 hl (k := 0) rfl (nI_1 _) (by decide) rfl (fun ls hl => ?_)
                  refine lv_goto (tgt := 50) hx hb dX2_readStreet_147 (by decide) ?_
                  exact ih_50 (k + 1) u2_84 l2_85 k2_86 r2_87 b2_88 nv ll_89 lov b1 b2_ b3 b4 b5 b6 b7 b8 b9 (by omega) (by omega) (by omega) (by first | assumption | exact fun i h => (hto i h).elim (fun q => Or.inl (bd_le q (by omega))) Or.inr) (by omega) _ _ _ (V.sub [0, 1, 2, 3, 4, 5, 6, 7, 11, 8, 9, 10] rfl rfl) (lv_sub hl [0, 1, 2, 3] rfl)
  exact L_9 _ 0 u2_2 l2_3 k2_4 r2_5 b2_6 0 (nI 0) (nI 20) af1 af2 af3 af4 af5 af6 af7 af8 gf (by omega) (by omega) (by omega) hft (Nat.lt_succ_self _) _ _ _ V (lv_sub hl [0, 1, 2, 3] rfl)
