def q_m_state_f (T : Nat → ClassId) (n : Nat) (o : Nat) (w0 : Int32) (g1 : Nat) (g2 : Nat) (g3 : Nat) (g4 : Nat) (tp : Nat) (w6 : Int32) (w7 : Int32) (w8 : Int32) (w9 : Int32) (w10 : Int32) (w11 : Int32) (w12 : Int32) (w13 : Int32) (w14 : Int32) (g15 : Nat) (w16 : Int32) (g17 : Nat) (w18 : Int32) (w19 : Int32) (g20 : Nat) (w21 : Int32) (g22 : Nat) (g23 : Nat) (g24 : Nat) (w25 : Int32) (w26 : Int32) (w27 : Int32) (g28 : Nat) (g29 : Nat) (w30 : Int32) (g31 : Nat) (g32 : Nat) (g33 : Nat) (fa : Nat → Int32) : Option Value → va_W → Prop := fun rr ww => (∃ (r : Nat), rr = some (.long (Int64.ofNat r)) ∧ ww = [(o, .inr (8, [.int w0, .ref g1, .ref g2, .ref g3, .ref g4, .int (nI tp), .int w6, .int w7, .int w8, .int w9, .int w10, .int w11, .int w12, .int w13, .int w14, .ref g15, .int w16, .ref g17, .int w18, .int w19, .ref g20, .int w21, .ref g22, .ref g23, .ref g24, .int w25, .int w26, .int w27, .ref g28, .ref g29, .int w30, .ref g31, .ref g32, .ref g33])), (g1, .inl (T 0, 282, .inl fa))] ∧ r = cdR (rdF n fa))
set_option maxHeartbeats 4000000 in
set_option maxRecDepth 100000 in
theorem m_state_f (l : Launch) (D : va_G) (T : Nat → ClassId) (n : Nat) (o : Nat) (w0 : Int32) (g1 : Nat) (g2 : Nat) (g3 : Nat) (g4 : Nat) (tp : Nat) (w6 : Int32) (w7 : Int32) (w8 : Int32) (w9 : Int32) (w10 : Int32) (w11 : Int32) (w12 : Int32) (w13 : Int32) (w14 : Int32) (g15 : Nat) (w16 : Int32) (g17 : Nat) (w18 : Int32) (w19 : Int32) (g20 : Nat) (w21 : Int32) (g22 : Nat) (g23 : Nat) (g24 : Nat) (w25 : Int32) (w26 : Int32) (w27 : Int32) (g28 : Nat) (g29 : Nat) (w30 : Int32) (g31 : Nat) (g32 : Nat) (g33 : Nat) (fa : Nat → Int32) (h_a : MI n fa) (h_3 : n ≤ 3) : Ct l yX8_state cX8_state 4 (some .long) 0 0 0 D T [.ref o] [(o, .inr (8, [.int w0, .ref g1, .ref g2, .ref g3, .ref g4, .int (nI tp), .int w6, .int w7, .int w8, .int w9, .int w10, .int w11, .int w12, .int w13, .int w14, .ref g15, .int w16, .ref g17, .int w18, .int w19, .ref g20, .int w21, .ref g22, .ref g23, .ref g24, .int w25, .int w26, .int w27, .ref g28, .ref g29, .int w30, .ref g31, .ref g32, .ref g33])), (g1, .inl (T 0, 282, .inl fa))] (q_m_state_f T n o w0 g1 g2 g3 g4 tp w6 w7 w8 w9 w10 w11 w12 w13 w14 g15 w16 g17 w18 w19 g20 w21 g22 g23 g24 w25 w26 w27 g28 g29 w30 g31 g32 g33 fa) := by
  refine Ct.of (cc := cX8_state) (maxL := 4) (ret := (some .long)) (by decide) (Nat.le_of_ble_eq_true rfl) ?_
  intro p e s m args below meth c A ls hC hnm V hl
  obtain ⟨hx, hb, hr, hml, hown, hts, hlocks⟩ := id hC
  generalize hH : s.heap = H at V ⊢
  clear hH
  have hl : lv_has ls 4 [(0, .ref o)] := hl
  generalize hlo : ([] : List Loc) = locs at V ⊢
  clear hlo
  have ms0 := ms_rf h_a
  have hn10 := h_a.1
  refine lv_lconst (v := (nI 0).toInt64) hx hb dX8_state_0 (by decide +kernel) ?_
  refine g_vl (y := Int64.ofNat 0) (by decide +kernel) ?_
  refine lv_lstore_n (lv' := [(1, .long (Int64.ofNat 0)), (0, .ref o)]) hx hb dX8_state_1 rfl hl (by decide) rfl (fun ls hl => ?_)
  refine lv_iconst (v := (nI 0)) hx hb dX8_state_2 (by decide +kernel) ?_
  refine lv_istore_n (lv' := [(3, .int (nI 0)), (1, .long (Int64.ofNat 0)), (0, .ref o)]) hx hb dX8_state_3 rfl hl (by decide) rfl (fun ls hl => ?_)
  have L_1 : ∀ (fu : Nat) (k4 : Nat) (sv : Nat), k4 ≤ n → sv = cdR (rdF k4 fa) → n - k4 < fu → ∀ (H : Heap) (locs : List Loc) (ls : Array Slot), gW D T A s [(o, .inr (8, [.int w0, .ref g1, .ref g2, .ref g3, .ref g4, .int (nI tp), .int w6, .int w7, .int w8, .int w9, .int w10, .int w11, .int w12, .int w13, .int w14, .ref g15, .int w16, .ref g17, .int w18, .int w19, .ref g20, .int w21, .ref g22, .ref g23, .ref g24, .int w25, .int w26, .int w27, .ref g28, .ref g29, .int w30, .ref g31, .ref g32, .ref g33])), (g1, .inl (T 0, 282, .inl fa))] H locs → lv_has ls 4 [(3, .int (nI k4)), (1, .long (Int64.ofNat sv)), (0, .ref o)] → W p l e (rmD 0 0 0) s m args below meth c H locs 0 0 (MQ below (gQ D A (q_m_state_f T n o w0 g1 g2 g3 g4 tp w6 w7 w8 w9 w10 w11 w12 w13 w14 g15 w16 g17 w18 w19 g20 w21 g22 g23 g24 w25 w26 w27 g28 g29 w30 g31 g32 g33 fa)) args s 0 0 A) (F0 m 4 ls []) := by
    intro fu_4
    induction fu_4 with
    | zero => intro k4 sv hk4 hsv hmu; exact absurd hmu (Nat.not_lt_zero _)
    | succ fu_4 ih_4 =>
      intro k4 sv hk4 hsv hmu_4 H locs ls V hl
      refine lv_iload_n hx hb dX8_state_4 rfl (lv_at hl 0 rfl) ?_
      refine lv_aload_n hx hb dX8_state_5 rfl (lv_at hl 2 rfl) ?_
      refine g_get hC V (ci := 8) uwX8 0 rfl rfl 1 (by decide) w_913 rfl rfl dX8_state_6 ?_
      refine lv_iconst (v := (nI 0)) hx hb dX8_state_9 (by decide +kernel) ?_
      refine g_iald hC V 1 rfl (vp_in_nI (by decide) (by decide)) (v := (nI n)) (by rw [nI_clamp (by decide)]; first | rfl | exact h_a.2.1) dX8_state_10 ?_
      refine lv_icmp_ge (tgt := 51) hx hb dX8_state_11 (by decide) (fun c_2 => ?_) (fun c_2 => ?_)
      · skip
        have c_2 := b_le (by omega) (by omega) c_2
        refine lv_lload_n hx hb dX8_state_51 rfl (lv_at hl 1 rfl) ?_
        exact g_lret (Qr := (q_m_state_f T n o w0 g1 g2 g3 g4 tp w6 w7 w8 w9 w10 w11 w12 w13 w14 g15 w16 g17 w18 w19 g20 w21 g22 g23 g24 w25 w26 w27 g28 g29 w30 g31 g32 g33 fa)) hC V ⟨(Nat.le_of_ble_eq_true rfl), (Nat.le_of_ble_eq_true rfl)⟩ ⟨sv, rfl, rfl, (by rw [hsv]; congr 2; omega)⟩ dX8_state_52
      · skip
        have c_2 := b_nle (by omega) (by omega) c_2
        refine lv_ldc2 (v := (8192)) hx hb hown (hts _ w_1285) dX8_state_14 ?_
        refine g_vl (y := (nI 8192).toInt64) (by decide +kernel) ?_
        refine lv_lload_n hx hb dX8_state_17 rfl (lv_at hl 1 rfl) ?_
        refine lv_lmul hx hb dX8_state_18 ?_
        refine g_vl (y := Int64.ofNat (8192 * sv)) (by rw [oL_i (a := 8192) (by omega)]; exact oL_mul _ _) ?_
        refine lv_bipush (v := (nI 32)) hx hb dX8_state_19 (by decide +kernel) ?_
        refine lv_aload_n hx hb dX8_state_21 rfl (lv_at hl 2 rfl) ?_
        refine g_get hC V (ci := 8) uwX8 0 rfl rfl 1 (by decide) w_913 rfl rfl dX8_state_22 ?_
        refine lv_bipush (v := (nI 24)) hx hb dX8_state_25 (by decide +kernel) ?_
        refine lv_iload_n hx hb dX8_state_27 rfl (lv_at hl 0 rfl) ?_
        refine lv_iadd hx hb dX8_state_28 ?_
        refine g_vi (y := (nI (24 + k4))) (nI_add _ _) ?_
        obtain ⟨j_3, hj_3, ej_3⟩ := bd_ex (mi_heat h_a (i := k4) (by omega))
        refine g_iald hC V 1 rfl (vp_in_nI (by omega) (by omega)) (v := (nI j_3)) (by rw [nI_clamp (by omega)]; exact ej_3) dX8_state_29 ?_
        refine lv_imul hx hb dX8_state_30 ?_
        refine g_vi (y := (nI (32 * j_3))) (pk_mul _ _) ?_
        refine lv_i2l (v := (nI (32 * j_3)).toInt64) hx hb dX8_state_31 rfl ?_
        refine lv_ladd hx hb dX8_state_32 ?_
        refine g_vl (y := Int64.ofNat ((8192 * sv) + (32 * j_3))) (by rw [oL_i (a := (32 * j_3)) (by omega)]; exact oL_add _ _) ?_
        refine lv_aload_n hx hb dX8_state_33 rfl (lv_at hl 2 rfl) ?_
        refine g_get hC V (ci := 8) uwX8 0 rfl rfl 1 (by decide) w_913 rfl rfl dX8_state_34 ?_
        refine lv_bipush (v := (nI 64)) hx hb dX8_state_37 (by decide +kernel) ?_
        refine lv_iload_n hx hb dX8_state_39 rfl (lv_at hl 0 rfl) ?_
        refine lv_iadd hx hb dX8_state_40 ?_
        refine g_vi (y := (nI (64 + k4))) (nI_add _ _) ?_
        obtain ⟨j_4, hj_4, ej_4⟩ := bd_ex (mi_has h_a (i := k4) (by omega))
        refine g_iald hC V 1 rfl (vp_in_nI (by omega) (by omega)) (v := (nI j_4)) (by rw [nI_clamp (by omega)]; exact ej_4) dX8_state_41 ?_
        refine lv_i2l (v := (nI j_4).toInt64) hx hb dX8_state_42 rfl ?_
        refine lv_ladd hx hb dX8_state_43 ?_
        refine g_vl (y := Int64.ofNat (((8192 * sv) + (32 * j_3)) + j_4)) (by rw [oL_i (a := j_4) (by omega)]; exact oL_add _ _) ?_
        refine lv_lstore_n (lv' := [(1, .long (Int64.ofNat (((8192 * sv) + (32 * j_3)) + j_4))), (3, .int (nI k4)), (0, .ref o)]) hx hb dX8_state_44 rfl hl (by decide) rfl (fun ls hl => ?_)
        refine lv_iinc (v := (nI (k4 + 1))) (lv' := [(3, .int (nI (k4 + 1))), (1, .long (Int64.ofNat (((8192 * sv) + (32 * j_3)) + j_4))), (0, .ref o)]) hx hb dX8_state_45 hl (k := 1) rfl (nI_1 _) (by decide) rfl (fun ls hl => ?_)
        refine lv_goto (tgt := 4) hx hb dX8_state_48 (by decide) ?_
        exact ih_4 (k4 + 1) (((8192 * sv) + (32 * j_3)) + j_4) (by omega) (st_r hsv ej_3 ej_4 (by omega) (by omega)) (by omega) _ _ _ V (lv_sub hl [0, 1, 2] rfl)
  exact L_1 _ 0 0 (by omega) rfl (Nat.lt_succ_self _) _ _ _ V (lv_sub hl [0, 1, 2] rfl)

def q_m_becomes_f (T : Nat → ClassId) (sv : Nat) (st_ : List Nat) (fb : Nat → Int32) (n : Nat) (o : Nat) (w0 : Int32) (g1 : Nat) (g2 : Nat) (g3 : Nat) (g4 : Nat) (tp : Nat) (w6 : Int32) (w7 : Int32) (w8 : Int32) (w9 : Int32) (w10 : Int32) (w11 : Int32) (w12 : Int32) (w13 : Int32) (w14 : Int32) (g15 : Nat) (w16 : Int32) (g17 : Nat) (w18 : Int32) (w19 : Int32) (g20 : Nat) (w21 : Int32) (g22 : Nat) (g23 : Nat) (g24 : Nat) (w25 : Int32) (w26 : Int32) (w27 : Int32) (g28 : Nat) (g29 : Nat) (w30 : Int32) (g31 : Nat) (g32 : Nat) (g33 : Nat) (fa : Nat → Int32) : Option Value → va_W → Prop := fun rr ww => (∃ (ga : Nat → Int32), rr = none ∧ ww = [(o, .inr (8, [.int w0, .ref g1, .ref g2, .ref g3, .ref g4, .int (nI tp), .int w6, .int w7, .int w8, .int w9, .int w10, .int w11, .int w12, .int w13, .int w14, .ref g15, .int w16, .ref g17, .int w18, .int w19, .ref g20, .int w21, .ref g22, .ref g23, .ref g24, .int w25, .int w26, .int w27, .ref g28, .ref g29, .int w30, .ref g31, .ref g32, .ref g33])), (g1, .inl (T 0, 282, .inl ga))] ∧ MS n fa ga ∧ AG fb ga ∧ GS n st_ ga)
set_option maxHeartbeats 4000000 in
set_option maxRecDepth 100000 in
theorem m_becomes_f (l : Launch) (D : va_G) (T : Nat → ClassId) (sv : Nat) (st_ : List Nat) (fb : Nat → Int32) (n : Nat) (o : Nat) (w0 : Int32) (g1 : Nat) (g2 : Nat) (g3 : Nat) (g4 : Nat) (tp : Nat) (w6 : Int32) (w7 : Int32) (w8 : Int32) (w9 : Int32) (w10 : Int32) (w11 : Int32) (w12 : Int32) (w13 : Int32) (w14 : Int32) (g15 : Nat) (w16 : Int32) (g17 : Nat) (w18 : Int32) (w19 : Int32) (g20 : Nat) (w21 : Int32) (g22 : Nat) (g23 : Nat) (g24 : Nat) (w25 : Int32) (w26 : Int32) (w27 : Int32) (g28 : Nat) (g29 : Nat) (w30 : Int32) (g31 : Nat) (g32 : Nat) (g33 : Nat) (fa : Nat → Int32) (h_a : MI n fa) (h_sv : sv = cdR st_) (h_vs : VS n st_) (h_3 : n ≤ 3) (h_ag : AG fb fa) : Ct l yX8_becomes cX8_becomes 6 none 0 0 0 D T [.ref o, .long (Int64.ofNat sv)] [(o, .inr (8, [.int w0, .ref g1, .ref g2, .ref g3, .ref g4, .int (nI tp), .int w6, .int w7, .int w8, .int w9, .int w10, .int w11, .int w12, .int w13, .int w14, .ref g15, .int w16, .ref g17, .int w18, .int w19, .ref g20, .int w21, .ref g22, .ref g23, .ref g24, .int w25, .int w26, .int w27, .ref g28, .ref g29, .int w30, .ref g31, .ref g32, .ref g33])), (g1, .inl (T 0, 282, .inl fa))] (q_m_becomes_f T sv st_ fb n o w0 g1 g2 g3 g4 tp w6 w7 w8 w9 w10 w11 w12 w13 w14 g15 w16 g17 w18 w19 g20 w21 g22 g23 g24 w25 w26 w27 g28 g29 w30 g31 g32 g33 fa) := by
  refine Ct.of (cc := cX8_becomes) (maxL := 6) (ret := none) (by decide) (Nat.le_of_ble_eq_true rfl) ?_
  intro p e s m args below meth c A ls hC hnm V hl
  obtain ⟨hx, hb, hr, hml, hown, hts, hlocks⟩ := id hC
  generalize hH : s.heap = H at V ⊢
  clear hH
  have hl : lv_has ls 6 [(0, .ref o), (1, .long (Int64.ofNat sv))] := hl
  generalize hlo : ([] : List Loc) = locs at V ⊢
  clear hlo
  have ms0 := ms_rf h_a
  have hn10 := h_a.1
  refine lv_lload_n hx hb dX8_becomes_0 rfl (lv_at hl 1 rfl) ?_
  refine lv_lstore_n (lv' := [(3, .long (Int64.ofNat sv)), (0, .ref o), (1, .long (Int64.ofNat sv))]) hx hb dX8_becomes_1 rfl hl (by decide) rfl (fun ls hl => ?_)
  refine lv_aload_n hx hb dX8_becomes_2 rfl (lv_at hl 1 rfl) ?_
  refine g_get hC V (ci := 8) uwX8 0 rfl rfl 1 (by decide) w_913 rfl rfl dX8_becomes_3 ?_
  refine lv_iconst (v := (nI 0)) hx hb dX8_becomes_6 (by decide +kernel) ?_
  refine g_iald hC V 1 rfl (vp_in_nI (by decide) (by decide)) (v := (nI n)) (by rw [nI_clamp (by decide)]; first | rfl | exact h_a.2.1 | exact hf12.1.2.1) dX8_becomes_7 ?_
  refine lv_iconst (v := (nI 1)) hx hb dX8_becomes_8 (by decide +kernel) ?_
  refine lv_isub hx hb dX8_becomes_9 ?_
  refine lv_istore (lv' := [(5, .int ((nI n) - (nI 1))), (3, .long (Int64.ofNat sv)), (0, .ref o), (1, .long (Int64.ofNat sv))]) hx hb dX8_becomes_10 hl (by decide) rfl (fun ls hl => ?_)
  have L_1 : ∀ (fu : Nat) (iv : Int32) (f12 : Nat → Int32) (kd : Nat) (vq : Nat), MS n fa f12 → iv = nI kd - nI 1 → kd ≤ n → vq < 549755813889 → vq = cdR (st_.take kd) → AG fb f12 → GT n st_ kd f12 → kd < fu → ∀ (H : Heap) (locs : List Loc) (ls : Array Slot), gW D T A s [(o, .inr (8, [.int w0, .ref g1, .ref g2, .ref g3, .ref g4, .int (nI tp), .int w6, .int w7, .int w8, .int w9, .int w10, .int w11, .int w12, .int w13, .int w14, .ref g15, .int w16, .ref g17, .int w18, .int w19, .ref g20, .int w21, .ref g22, .ref g23, .ref g24, .int w25, .int w26, .int w27, .ref g28, .ref g29, .int w30, .ref g31, .ref g32, .ref g33])), (g1, .inl (T 0, 282, .inl f12))] H locs → lv_has ls 6 [(5, .int iv), (3, .long (Int64.ofNat vq)), (0, .ref o), (1, .long (Int64.ofNat sv))] → W p l e (rmD 0 0 0) s m args below meth c H locs 0 0 (MQ below (gQ D A (q_m_becomes_f T sv st_ fb n o w0 g1 g2 g3 g4 tp w6 w7 w8 w9 w10 w11 w12 w13 w14 g15 w16 g17 w18 w19 g20 w21 g22 g23 g24 w25 w26 w27 g28 g29 w30 g31 g32 g33 fa)) args s 0 0 A) (F0 m 12 ls []) := by
    intro fu_12
    induction fu_12 with
    | zero => intro iv f12 kd vq hf12 hiv hkd hq hvq hag hgt hmu; exact absurd hmu (Nat.not_lt_zero _)
    | succ fu_12 ih_12 =>
      intro iv f12 kd vq hf12 hiv hkd hq hvq hag hgt hmu_12 H locs ls V hl
      refine lv_iload hx hb dX8_becomes_12 (lv_at hl 0 rfl) ?_
      refine lv_if_lt (tgt := 64) hx hb dX8_becomes_14 (by decide) (fun c_2 => ?_) (fun c_2 => ?_)
      · skip
        have hkd0 := dn_zero hiv (by omega) c_2
        exact g_vret (Qr := (q_m_becomes_f T sv st_ fb n o w0 g1 g2 g3 g4 tp w6 w7 w8 w9 w10 w11 w12 w13 w14 g15 w16 g17 w18 w19 g20 w21 g22 g23 g24 w25 w26 w27 g28 g29 w30 g31 g32 g33 fa)) hC V ⟨(Nat.le_of_ble_eq_true rfl), (Nat.le_of_ble_eq_true rfl)⟩ ⟨f12, rfl, rfl, (by assumption), hag, (gt_e hgt hkd0)⟩ dX8_becomes_64
      · skip
        obtain ⟨h1kd, ekd⟩ := dn_pos hiv (by omega) c_2
        rw [ekd] at hl
        refine lv_aload_n hx hb dX8_becomes_17 rfl (lv_at hl 2 rfl) ?_
        refine g_get hC V (ci := 8) uwX8 0 rfl rfl 1 (by decide) w_913 rfl rfl dX8_becomes_18 ?_
        refine lv_bipush (v := (nI 24)) hx hb dX8_becomes_21 (by decide +kernel) ?_
        refine lv_iload hx hb dX8_becomes_23 (lv_at hl 0 rfl) ?_
        refine lv_iadd hx hb dX8_becomes_25 ?_
        refine g_vi (y := (nI (24 + (kd - 1)))) (nI_add _ _) ?_
        refine lv_lload_n hx hb dX8_becomes_26 rfl (lv_at hl 1 rfl) ?_
        refine lv_ldc2 (v := (8192)) hx hb hown (hts _ w_1285) dX8_becomes_27 ?_
        refine g_vl (y := (nI 8192).toInt64) (by decide +kernel) ?_
        refine lv_lrem hx hb dX8_becomes_30 (by decide +kernel) ?_
        refine g_vl (y := Int64.ofNat (vq % 8192)) (by rw [oL_i (a := 8192) (by omega)]; exact oL_rem (by omega) (by omega)) ?_
        refine lv_l2i hx hb dX8_becomes_31 rfl ?_
        refine g_vi (y := (nI (vq % 8192))) (oL_32 (by omega)) ?_
        refine lv_bipush (v := (nI 32)) hx hb dX8_becomes_32 (by decide +kernel) ?_
        refine lv_idiv hx hb dX8_becomes_34 (by decide +kernel) ?_
        refine g_vi (y := (nI ((vq % 8192) / 32))) (nI_div (by omega) (by omega)) ?_
        obtain ⟨f_3, ef_3⟩ : ∃ x, x = upd f12 (24 + (kd - 1)) (nI ((vq % 8192) / 32)) := ⟨_, rfl⟩
        have hf_3 : MS n fa f_3 := by rw [ef_3]; exact ms_st (by assumption) (by omega) (by omega) (by intros; first | (exfalso; omega) | exact bd_nI (by omega) | exact bd_le ‹bd (nI ((vq % 8192) / 32)) _› (by omega) | assumption) (by intros; first | (exfalso; omega) | exact bd_nI (by omega) | exact bd_le ‹bd (nI ((vq % 8192) / 32)) _› (by omega) | assumption) (by intros; first | (exfalso; omega) | exact bd_nI (by omega) | exact bd_le ‹bd (nI ((vq % 8192) / 32)) _› (by omega) | assumption) (by intros; first | (exfalso; omega) | exact bd_nI (by omega) | exact bd_le ‹bd (nI ((vq % 8192) / 32)) _› (by omega) | assumption) (by intros; first | (exfalso; omega) | exact bd_nI (by omega) | exact bd_le ‹bd (nI ((vq % 8192) / 32)) _› (by omega) | assumption) (by intros; first | (exfalso; omega) | exact bd_nI (by omega) | exact bd_le ‹bd (nI ((vq % 8192) / 32)) _› (by omega) | assumption) (by intros; first | (exfalso; omega) | exact bd_nI (by omega) | exact bd_le ‹bd (nI ((vq % 8192) / 32)) _› (by omega) | assumption)
        refine g_iast hC V 1 rfl (vp_in_nI (by omega) (by omega)) (f' := f_3) (by rw [nI_clamp (by omega)]; exact ef_3.symm) (ws' := [(o, .inr (8, [.int w0, .ref g1, .ref g2, .ref g3, .ref g4, .int (nI tp), .int w6, .int w7, .int w8, .int w9, .int w10, .int w11, .int w12, .int w13, .int w14, .ref g15, .int w16, .ref g17, .int w18, .int w19, .ref g20, .int w21, .ref g22, .ref g23, .ref g24, .int w25, .int w26, .int w27, .ref g28, .ref g29, .int w30, .ref g31, .ref g32, .ref g33])), (g1, .inl (T 0, 282, .inl f_3))]) rfl dX8_becomes_35 (fun H locs V => ?_)
        refine lv_aload_n hx hb dX8_becomes_36 rfl (lv_at hl 2 rfl) ?_
        refine g_get hC V (ci := 8) uwX8 0 rfl rfl 1 (by decide) w_913 rfl rfl dX8_becomes_37 ?_
        refine lv_bipush (v := (nI 64)) hx hb dX8_becomes_40 (by decide +kernel) ?_
        refine lv_iload hx hb dX8_becomes_42 (lv_at hl 0 rfl) ?_
        refine lv_iadd hx hb dX8_becomes_44 ?_
        refine g_vi (y := (nI (64 + (kd - 1)))) (nI_add _ _) ?_
        refine lv_lload_n hx hb dX8_becomes_45 rfl (lv_at hl 1 rfl) ?_
        refine lv_ldc2 (v := (32)) hx hb hown (hts _ w_1299) dX8_becomes_46 ?_
        refine g_vl (y := (nI 32).toInt64) (by decide +kernel) ?_
        refine lv_lrem hx hb dX8_becomes_49 (by decide +kernel) ?_
        refine g_vl (y := Int64.ofNat (vq % 32)) (by rw [oL_i (a := 32) (by omega)]; exact oL_rem (by omega) (by omega)) ?_
        refine lv_l2i hx hb dX8_becomes_50 rfl ?_
        refine g_vi (y := (nI (vq % 32))) (oL_32 (by omega)) ?_
        obtain ⟨f_4, ef_4⟩ : ∃ x, x = upd f_3 (64 + (kd - 1)) (nI (vq % 32)) := ⟨_, rfl⟩
        have hf_4 : MS n fa f_4 := by rw [ef_4]; exact ms_st (by assumption) (by omega) (by omega) (by intros; first | (exfalso; omega) | exact bd_nI (by omega) | exact bd_le ‹bd (nI (vq % 32)) _› (by omega) | assumption) (by intros; first | (exfalso; omega) | exact bd_nI (by omega) | exact bd_le ‹bd (nI (vq % 32)) _› (by omega) | assumption) (by intros; first | (exfalso; omega) | exact bd_nI (by omega) | exact bd_le ‹bd (nI (vq % 32)) _› (by omega) | assumption) (by intros; first | (exfalso; omega) | exact bd_nI (by omega) | exact bd_le ‹bd (nI (vq % 32)) _› (by omega) | assumption) (by intros; first | (exfalso; omega) | exact bd_nI (by omega) | exact bd_le ‹bd (nI (vq % 32)) _› (by omega) | assumption) (by intros; first | (exfalso; omega) | exact bd_nI (by omega) | exact bd_le ‹bd (nI (vq % 32)) _› (by omega) | assumption) (by intros; first | (exfalso; omega) | exact bd_nI (by omega) | exact bd_le ‹bd (nI (vq % 32)) _› (by omega) | assumption)
        refine g_iast hC V 1 rfl (vp_in_nI (by omega) (by omega)) (f' := f_4) (by rw [nI_clamp (by omega)]; exact ef_4.symm) (ws' := [(o, .inr (8, [.int w0, .ref g1, .ref g2, .ref g3, .ref g4, .int (nI tp), .int w6, .int w7, .int w8, .int w9, .int w10, .int w11, .int w12, .int w13, .int w14, .ref g15, .int w16, .ref g17, .int w18, .int w19, .ref g20, .int w21, .ref g22, .ref g23, .ref g24, .int w25, .int w26, .int w27, .ref g28, .ref g29, .int w30, .ref g31, .ref g32, .ref g33])), (g1, .inl (T 0, 282, .inl f_4))]) rfl dX8_becomes_51 (fun H locs V => ?_)
        refine lv_lload_n hx hb dX8_becomes_52 rfl (lv_at hl 1 rfl) ?_
        refine lv_ldc2 (v := (8192)) hx hb hown (hts _ w_1285) dX8_becomes_53 ?_
        refine g_vl (y := (nI 8192).toInt64) (by decide +kernel) ?_
        refine lv_ldiv hx hb dX8_becomes_56 (by decide +kernel) ?_
        refine g_vl (y := Int64.ofNat (vq / 8192)) (by rw [oL_i (a := 8192) (by omega)]; exact oL_div (by omega) (by omega)) ?_
        refine lv_lstore_n (lv' := [(3, .long (Int64.ofNat (vq / 8192))), (5, .int (nI (kd - 1))), (0, .ref o), (1, .long (Int64.ofNat sv))]) hx hb dX8_becomes_57 rfl hl (by decide) rfl (fun ls hl => ?_)
        refine lv_iinc (v := ((nI (kd - 1)) + (-1))) (lv' := [(5, .int ((nI (kd - 1)) + (-1))), (3, .long (Int64.ofNat (vq / 8192))), (0, .ref o), (1, .long (Int64.ofNat sv))]) hx hb dX8_becomes_58 hl (k := 1) rfl rfl (by decide) rfl (fun ls hl => ?_)
        refine lv_goto (tgt := 12) hx hb dX8_becomes_61 (by decide) ?_
        exact ih_12 ((nI (kd - 1)) + (-1)) f_4 (kd - 1) (vq / 8192) (by assumption) (dn_step _) (by omega) (by omega) (bk hvq h1kd h_vs (by omega)).2.2 (ag_up hag ef_3 ef_4 (by omega) (by omega)) (gt_s hgt hn10 h1kd (by omega) ef_3 ef_4 (bk hvq h1kd h_vs (by omega)).1 (bk hvq h1kd h_vs (by omega)).2.1) (by omega) _ _ _ V (lv_sub hl [0, 1, 2, 3] rfl)
  exact L_1 _ ((nI n) - (nI 1)) fa n sv (by assumption) rfl (Nat.le_refl _) (by rw [h_sv]; exact Nat.lt_succ_of_lt (cd_bd h_vs h_3).2) (by rw [← h_vs.1, List.take_length]; exact h_sv) h_ag gt_0 (Nat.lt_succ_self _) _ _ _ V (lv_sub hl [0, 1, 2, 3] rfl)

def q_m_meets_f (T : Nat → ClassId) (sv : Nat) (n : Nat) (V_ : List (List Nat)) (x_ : List Nat) (o : Nat) (w0 : Int32) (g1 : Nat) (g2 : Nat) (g3 : Nat) (g4 : Nat) (tp : Nat) (w6 : Int32) (w7 : Int32) (w8 : Int32) (w9 : Int32) (w10 : Int32) (w11 : Int32) (w12 : Int32) (w13 : Int32) (w14 : Int32) (g15 : Nat) (w16 : Int32) (g17 : Nat) (w18 : Int32) (w19 : Int32) (g20 : Nat) (w21 : Int32) (g22 : Nat) (g23 : Nat) (g24 : Nat) (sm : Nat) (w26 : Int32) (w27 : Int32) (g28 : Nat) (g29 : Nat) (w30 : Int32) (g31 : Nat) (g32 : Nat) (g33 : Nat) (fs : Nat → Int64) (fc : Nat → Int32) : Option Value → va_W → Prop := fun rr ww => (∃ (sm2 : Nat) (gs : Nat → Int64) (gt : Nat → Int32), rr = none ∧ ww = [(o, .inr (8, [.int w0, .ref g1, .ref g2, .ref g3, .ref g4, .int (nI tp), .int w6, .int w7, .int w8, .int w9, .int w10, .int w11, .int w12, .int w13, .int w14, .ref g15, .int w16, .ref g17, .int w18, .int w19, .ref g20, .int w21, .ref g22, .ref g23, .ref g24, .int (nI sm2), .int w26, .int w27, .ref g28, .ref g29, .int w30, .ref g31, .ref g32, .ref g33])), (g23, .inl (T 1, 3001, .inr (.inl gs))), (g24, .inl (T 0, 8192, .inl gt))] ∧ HT (VS n) cR hsR (inz V_ x_) sm2 gs gt ∧ sm ≤ sm2 ∧ sm2 ≤ 3001)
set_option maxHeartbeats 4000000 in
set_option maxRecDepth 100000 in
theorem m_meets_f (l : Launch) (D : va_G) (T : Nat → ClassId) (sv : Nat) (n : Nat) (V_ : List (List Nat)) (x_ : List Nat) (o : Nat) (w0 : Int32) (g1 : Nat) (g2 : Nat) (g3 : Nat) (g4 : Nat) (tp : Nat) (w6 : Int32) (w7 : Int32) (w8 : Int32) (w9 : Int32) (w10 : Int32) (w11 : Int32) (w12 : Int32) (w13 : Int32) (w14 : Int32) (g15 : Nat) (w16 : Int32) (g17 : Nat) (w18 : Int32) (w19 : Int32) (g20 : Nat) (w21 : Int32) (g22 : Nat) (g23 : Nat) (g24 : Nat) (sm : Nat) (w26 : Int32) (w27 : Int32) (g28 : Nat) (g29 : Nat) (w30 : Int32) (g31 : Nat) (g32 : Nat) (g33 : Nat) (fs : Nat → Int64) (fc : Nat → Int32) (h_ht : HT (VS n) cR hsR V_ sm fs fc) (h_x : VS n x_) (h_sv : sv = cdR x_) (h_3 : n ≤ 3) : Ct l yX8_meets cX8_meets 4 none 0 0 0 D T [.ref o, .long (Int64.ofNat sv)] [(o, .inr (8, [.int w0, .ref g1, .ref g2, .ref g3, .ref g4, .int (nI tp), .int w6, .int w7, .int w8, .int w9, .int w10, .int w11, .int w12, .int w13, .int w14, .ref g15, .int w16, .ref g17, .int w18, .int w19, .ref g20, .int w21, .ref g22, .ref g23, .ref g24, .int (nI sm), .int w26, .int w27, .ref g28, .ref g29, .int w30, .ref g31, .ref g32, .ref g33])), (g23, .inl (T 1, 3001, .inr (.inl fs))), (g24, .inl (T 0, 8192, .inl fc))] (q_m_meets_f T sv n V_ x_ o w0 g1 g2 g3 g4 tp w6 w7 w8 w9 w10 w11 w12 w13 w14 g15 w16 g17 w18 w19 g20 w21 g22 g23 g24 sm w26 w27 g28 g29 w30 g31 g32 g33 fs fc) := by
  refine Ct.of (cc := cX8_meets) (maxL := 4) (ret := none) (by decide) (Nat.le_of_ble_eq_true rfl) ?_
  intro p e s m args below meth c A ls hC hnm V hl
  obtain ⟨hx, hb, hr, hml, hown, hts, hlocks⟩ := id hC
  generalize hH : s.heap = H at V ⊢
  clear hH
  have hl : lv_has ls 4 [(0, .ref o), (1, .long (Int64.ofNat sv))] := hl
  generalize hlo : ([] : List Loc) = locs at V ⊢
  clear hlo
  have hsm := h_ht.2.1
  have hb9 := (cd_bd h_x h_3).2
  have hsv9 : sv < 549755813888 := by rw [h_sv]; exact hb9
  have h_v : Int64.ofNat sv = cR x_ := by rw [h_sv]; rfl
  have hq8 : sv % 8191 = hsR (cR x_) := by rw [h_sv]; exact hsR_eq hb9
  have hbd : ∀ i, i < 8192 → bd (fc i) (sm + 1) := fun i hi => ht_bd h_ht hi
  refine lv_lload_n hx hb dX8_meets_0 rfl (lv_at hl 1 rfl) ?_
  refine lv_ldc2 (v := (8191)) hx hb hown (hts _ w_1290) dX8_meets_1 ?_
  refine g_vl (y := (nI 8191).toInt64) (by decide +kernel) ?_
  refine lv_lrem hx hb dX8_meets_4 (by decide +kernel) ?_
  refine g_vl (y := Int64.ofNat (sv % 8191)) (by rw [oL_i (a := 8191) (by omega)]; exact oL_rem (by omega) (by omega)) ?_
  refine lv_l2i hx hb dX8_meets_5 rfl ?_
  refine g_vi (y := (nI (sv % 8191))) (oL_32 (by omega)) ?_
  refine lv_istore_n (lv' := [(3, .int (nI (sv % 8191))), (0, .ref o), (1, .long (Int64.ofNat sv))]) hx hb dX8_meets_6 rfl hl (by decide) rfl (fun ls hl => ?_)
  have L_1 : ∀ (fu : Nat) (kq : Nat) (dk : Nat), kq = (sv % 8191 + dk) % 8192 → PK cR V_ fc x_ (sv % 8191) dk → 8192 - dk < fu → ∀ (H : Heap) (locs : List Loc) (ls : Array Slot), gW D T A s [(o, .inr (8, [.int w0, .ref g1, .ref g2, .ref g3, .ref g4, .int (nI tp), .int w6, .int w7, .int w8, .int w9, .int w10, .int w11, .int w12, .int w13, .int w14, .ref g15, .int w16, .ref g17, .int w18, .int w19, .ref g20, .int w21, .ref g22, .ref g23, .ref g24, .int (nI sm), .int w26, .int w27, .ref g28, .ref g29, .int w30, .ref g31, .ref g32, .ref g33])), (g23, .inl (T 1, 3001, .inr (.inl fs))), (g24, .inl (T 0, 8192, .inl fc))] H locs → lv_has ls 4 [(3, .int (nI kq)), (0, .ref o), (1, .long (Int64.ofNat sv))] → W p l e (rmD 0 0 0) s m args below meth c H locs 0 0 (MQ below (gQ D A (q_m_meets_f T sv n V_ x_ o w0 g1 g2 g3 g4 tp w6 w7 w8 w9 w10 w11 w12 w13 w14 g15 w16 g17 w18 w19 g20 w21 g22 g23 g24 sm w26 w27 g28 g29 w30 g31 g32 g33 fs fc)) args s 0 0 A) (F0 m 7 ls []) := by
    intro fu_7
    induction fu_7 with
    | zero => intro kq dk hkq hpk hmu; exact absurd hmu (Nat.not_lt_zero _)
    | succ fu_7 ih_7 =>
      intro kq dk hkq hpk hmu_7 H locs ls V hl
      have hdk := pk_end h_ht hpk (show sv % 8191 < 8192 by omega)
      refine lv_aload_n hx hb dX8_meets_7 rfl (lv_at hl 1 rfl) ?_
      refine g_get hC V (ci := 8) uwX8 0 rfl rfl 24 (by decide) w_936 rfl rfl dX8_meets_8 ?_
      refine lv_iload_n hx hb dX8_meets_11 rfl (lv_at hl 0 rfl) ?_
      obtain ⟨j_2, hj_2, ej_2⟩ := bd_ex (hbd kq (by omega))
      refine g_iald hC V 2 rfl (vp_in_nI (by omega) (by omega)) (v := (nI j_2)) (by rw [nI_clamp (by omega)]; exact ej_2) dX8_meets_12 ?_
      refine lv_if_le (tgt := 46) hx hb dX8_meets_13 (by decide) (fun c_3 => ?_) (fun c_3 => ?_)
      · skip
        rw [show (0 : Int32) = nI 0 from rfl] at c_3
        have c_3 := b_le (by omega) (by omega) c_3
        refine lv_aload_n hx hb dX8_meets_46 rfl (lv_at hl 1 rfl) ?_
        refine g_get hC V (ci := 8) uwX8 0 rfl rfl 25 (by decide) w_937 rfl rfl dX8_meets_47 ?_
        refine lv_sipush (v := (nI 3001)) hx hb dX8_meets_50 (by decide +kernel) ?_
        refine lv_icmp_ne (tgt := 57) hx hb dX8_meets_53 (by decide) (fun c_4 => ?_) (fun c_4 => ?_)
        · skip
          have c_4 := b_ne (by omega) (by omega) c_4
          refine lv_aload_n hx hb dX8_meets_57 rfl (lv_at hl 1 rfl) ?_
          refine g_get hC V (ci := 8) uwX8 0 rfl rfl 23 (by decide) w_935 rfl rfl dX8_meets_58 ?_
          refine lv_aload_n hx hb dX8_meets_61 rfl (lv_at hl 1 rfl) ?_
          refine g_get hC V (ci := 8) uwX8 0 rfl rfl 25 (by decide) w_937 rfl rfl dX8_meets_62 ?_
          refine lv_lload_n hx hb dX8_meets_65 rfl (lv_at hl 2 rfl) ?_
          refine g_last hC V 1 rfl (vp_in_nI (by omega) (by omega)) (f' := (vp_updL fs sm (Int64.ofNat sv))) (by rw [nI_clamp (by omega)]) (ws' := [(o, .inr (8, [.int w0, .ref g1, .ref g2, .ref g3, .ref g4, .int (nI tp), .int w6, .int w7, .int w8, .int w9, .int w10, .int w11, .int w12, .int w13, .int w14, .ref g15, .int w16, .ref g17, .int w18, .int w19, .ref g20, .int w21, .ref g22, .ref g23, .ref g24, .int (nI sm), .int w26, .int w27, .ref g28, .ref g29, .int w30, .ref g31, .ref g32, .ref g33])), (g23, .inl (T 1, 3001, .inr (.inl (vp_updL fs sm (Int64.ofNat sv))))), (g24, .inl (T 0, 8192, .inl fc))]) rfl dX8_meets_66 (fun H locs V => ?_)
          refine lv_aload_n hx hb dX8_meets_67 rfl (lv_at hl 1 rfl) ?_
          refine lv_dup hx hb dX8_meets_68 rfl ?_
          refine g_get hC V (ci := 8) uwX8 0 rfl rfl 25 (by decide) w_937 rfl rfl dX8_meets_69 ?_
          refine lv_iconst (v := (nI 1)) hx hb dX8_meets_72 (by decide +kernel) ?_
          refine lv_iadd hx hb dX8_meets_73 ?_
          refine g_vi (y := (nI (sm + 1))) (nI_add _ _) ?_
          refine g_put hC V (ci := 8) uwX8 tyX8 tyX8_ok nmX8 0 rfl rfl 25 (by decide) w_937 rfl rfl rfl rfl (Nat.le_of_ble_eq_true rfl) (ws' := [(o, .inr (8, [.int w0, .ref g1, .ref g2, .ref g3, .ref g4, .int (nI tp), .int w6, .int w7, .int w8, .int w9, .int w10, .int w11, .int w12, .int w13, .int w14, .ref g15, .int w16, .ref g17, .int w18, .int w19, .ref g20, .int w21, .ref g22, .ref g23, .ref g24, .int (nI (sm + 1)), .int w26, .int w27, .ref g28, .ref g29, .int w30, .ref g31, .ref g32, .ref g33])), (g23, .inl (T 1, 3001, .inr (.inl (vp_updL fs sm (Int64.ofNat sv))))), (g24, .inl (T 0, 8192, .inl fc))]) rfl dX8_meets_74 (fun H locs V => ?_)
          refine lv_aload_n hx hb dX8_meets_77 rfl (lv_at hl 1 rfl) ?_
          refine g_get hC V (ci := 8) uwX8 0 rfl rfl 24 (by decide) w_936 rfl rfl dX8_meets_78 ?_
          refine lv_iload_n hx hb dX8_meets_81 rfl (lv_at hl 0 rfl) ?_
          refine lv_aload_n hx hb dX8_meets_82 rfl (lv_at hl 1 rfl) ?_
          refine g_get hC V (ci := 8) uwX8 0 rfl rfl 25 (by decide) w_937 rfl rfl dX8_meets_83 ?_
          refine g_iast hC V 2 rfl (vp_in_nI (by omega) (by omega)) (f' := (upd fc kq (nI (sm + 1)))) (by rw [nI_clamp (by omega)]) (ws' := [(o, .inr (8, [.int w0, .ref g1, .ref g2, .ref g3, .ref g4, .int (nI tp), .int w6, .int w7, .int w8, .int w9, .int w10, .int w11, .int w12, .int w13, .int w14, .ref g15, .int w16, .ref g17, .int w18, .int w19, .ref g20, .int w21, .ref g22, .ref g23, .ref g24, .int (nI (sm + 1)), .int w26, .int w27, .ref g28, .ref g29, .int w30, .ref g31, .ref g32, .ref g33])), (g23, .inl (T 1, 3001, .inr (.inl (vp_updL fs sm (Int64.ofNat sv))))), (g24, .inl (T 0, 8192, .inl (upd fc kq (nI (sm + 1)))))]) rfl dX8_meets_86 (fun H locs V => ?_)
          exact g_vret (Qr := (q_m_meets_f T sv n V_ x_ o w0 g1 g2 g3 g4 tp w6 w7 w8 w9 w10 w11 w12 w13 w14 g15 w16 g17 w18 w19 g20 w21 g22 g23 g24 sm w26 w27 g28 g29 w30 g31 g32 g33 fs fc)) hC V ⟨(Nat.le_of_ble_eq_true rfl), (Nat.le_of_ble_eq_true rfl)⟩ ⟨(sm + 1), (vp_updL fs sm (Int64.ofNat sv)), (upd fc kq (nI (sm + 1))), rfl, rfl, (ht_put h_ht h_x hq8 hpk (by omega) hkq (ej_2.trans (by rw [show j_2 = 0 by omega])) (by omega) h_v), (by omega), (by omega)⟩ dX8_meets_87
        · skip
          have c_4 := b_eq (by omega) (by omega) c_4
          exact g_vret (Qr := (q_m_meets_f T sv n V_ x_ o w0 g1 g2 g3 g4 tp w6 w7 w8 w9 w10 w11 w12 w13 w14 g15 w16 g17 w18 w19 g20 w21 g22 g23 g24 sm w26 w27 g28 g29 w30 g31 g32 g33 fs fc)) hC V ⟨(Nat.le_of_ble_eq_true rfl), (Nat.le_of_ble_eq_true rfl)⟩ ⟨sm, fs, fc, rfl, rfl, (ht_f h_ht (by omega)), (Nat.le_refl _), hsm⟩ dX8_meets_56
      · skip
        rw [show (0 : Int32) = nI 0 from rfl] at c_3
        have c_3 := b_nle (by omega) (by omega) c_3
        refine lv_aload_n hx hb dX8_meets_16 rfl (lv_at hl 1 rfl) ?_
        refine g_get hC V (ci := 8) uwX8 0 rfl rfl 23 (by decide) w_935 rfl rfl dX8_meets_17 ?_
        refine lv_aload_n hx hb dX8_meets_20 rfl (lv_at hl 1 rfl) ?_
        refine g_get hC V (ci := 8) uwX8 0 rfl rfl 24 (by decide) w_936 rfl rfl dX8_meets_21 ?_
        refine lv_iload_n hx hb dX8_meets_24 rfl (lv_at hl 0 rfl) ?_
        refine g_iald hC V 2 rfl (vp_in_nI (by omega) (by omega)) (v := (nI j_2)) (by rw [nI_clamp (by omega)]; exact ej_2) dX8_meets_25 ?_
        refine lv_iconst (v := (nI 1)) hx hb dX8_meets_26 (by decide +kernel) ?_
        refine lv_isub hx hb dX8_meets_27 ?_
        refine g_vi (y := (nI (j_2 - 1))) (nI_sub (by omega)) ?_
        refine g_lald hC V 1 rfl (vp_in_nI (by omega) (by omega)) (v := (fs (j_2 - 1))) (congrArg _ (nI_clamp (by omega))) dX8_meets_28 ?_
        refine lv_lload_n hx hb dX8_meets_29 rfl (lv_at hl 2 rfl) ?_
        refine W.lcmp hx hb dX8_meets_30 ?_
        refine lv_if_ne (tgt := 35) hx hb dX8_meets_31 (by decide) (fun c_5 => ?_) (fun c_5 => ?_)
        · skip
          refine lv_iload_n hx hb dX8_meets_35 rfl (lv_at hl 0 rfl) ?_
          refine lv_iconst (v := (nI 1)) hx hb dX8_meets_36 (by decide +kernel) ?_
          refine lv_iadd hx hb dX8_meets_37 ?_
          refine g_vi (y := (nI (kq + 1))) (nI_add _ _) ?_
          refine lv_sipush (v := (nI 8192)) hx hb dX8_meets_38 (by decide +kernel) ?_
          refine lv_irem hx hb dX8_meets_41 (by decide +kernel) ?_
          refine g_vi (y := (nI ((kq + 1) % 8192))) (nI_rem (by omega) (by omega)) ?_
          refine lv_istore_n (lv' := [(3, .int (nI ((kq + 1) % 8192))), (0, .ref o), (1, .long (Int64.ofNat sv))]) hx hb dX8_meets_42 rfl hl (by decide) rfl (fun ls hl => ?_)
          refine lv_goto (tgt := 7) hx hb dX8_meets_43 (by decide) ?_
          exact ih_7 ((kq + 1) % 8192) (dk + 1) (by omega) (pk_s h_ht hpk hkq ej_2 (Nat.ne_of_gt c_3) (by omega) h_v (fun r => c_5 ((lg_cmp_eq _ _).mpr r))) (by omega) _ _ _ V (lv_sub hl [0, 1, 2] rfl)
        · skip
          exact g_vret (Qr := (q_m_meets_f T sv n V_ x_ o w0 g1 g2 g3 g4 tp w6 w7 w8 w9 w10 w11 w12 w13 w14 g15 w16 g17 w18 w19 g20 w21 g22 g23 g24 sm w26 w27 g28 g29 w30 g31 g32 g33 fs fc)) hC V ⟨(Nat.le_of_ble_eq_true rfl), (Nat.le_of_ble_eq_true rfl)⟩ ⟨sm, fs, fc, rfl, rfl, (ht_y (cR_inj h_3) h_ht h_x (Nat.ne_of_gt c_3) (by omega) h_v ((lg_cmp_eq _ _).mp c_5)), (Nat.le_refl _), hsm⟩ dX8_meets_34
  exact L_1 _ (sv % 8191) 0 (by omega) pk_0 (Nat.lt_succ_self _) _ _ _ V (lv_sub hl [0, 1, 2] rfl)

def q_m_doesAll_f (T : Nat → ClassId) (sv : Nat) (st_ : List Nat) (fb : Nat → Int32) (V_ : List (List Nat)) (n : Nat) (o : Nat) (w0 : Int32) (g1 : Nat) (g2 : Nat) (g3 : Nat) (g4 : Nat) (tp : Nat) (w6 : Int32) (w7 : Int32) (w8 : Int32) (w9 : Int32) (w10 : Int32) (w11 : Int32) (w12 : Int32) (w13 : Int32) (w14 : Int32) (g15 : Nat) (w16 : Int32) (g17 : Nat) (w18 : Int32) (w19 : Int32) (g20 : Nat) (w21 : Int32) (g22 : Nat) (g23 : Nat) (g24 : Nat) (sm : Nat) (w26 : Int32) (w27 : Int32) (g28 : Nat) (g29 : Nat) (w30 : Int32) (g31 : Nat) (g32 : Nat) (g33 : Nat) (fa : Nat → Int32) (fh : Nat → Int32) (fs : Nat → Int64) (fc : Nat → Int32) : Option Value → va_W → Prop := fun rr ww => (∃ (bm : Int32) (ga : Nat → Int32) (gh : Nat → Int32) (sm2 : Nat) (gs : Nat → Int64) (gt : Nat → Int32), rr = some (.int (nI 1)) ∧ ww = [(o, .inr (8, [.int w0, .ref g1, .ref g2, .ref g3, .ref g4, .int (nI tp), .int w6, .int w7, .int w8, .int w9, .int w10, .int w11, .int w12, .int w13, .int w14, .ref g15, .int bm, .ref g17, .int w18, .int w19, .ref g20, .int w21, .ref g22, .ref g23, .ref g24, .int (nI sm2), .int w26, .int w27, .ref g28, .ref g29, .int w30, .ref g31, .ref g32, .ref g33])), (g1, .inl (T 0, 282, .inl ga)), (g15, .inl (T 0, 10, .inl gh)), (g23, .inl (T 1, 3001, .inr (.inl gs))), (g24, .inl (T 0, 8192, .inl gt))] ∧ MS n fa ga ∧ AG fb ga ∧ enB n fb st_ = true ∧ sm ≤ sm2 ∧ sm2 ≤ 3001) ∨ (∃ (bm : Int32) (ga : Nat → Int32) (gh : Nat → Int32) (sm2 : Nat) (gs : Nat → Int64) (gt : Nat → Int32), rr = some (.int (nI 0)) ∧ ww = [(o, .inr (8, [.int w0, .ref g1, .ref g2, .ref g3, .ref g4, .int (nI tp), .int w6, .int w7, .int w8, .int w9, .int w10, .int w11, .int w12, .int w13, .int w14, .ref g15, .int bm, .ref g17, .int w18, .int w19, .ref g20, .int w21, .ref g22, .ref g23, .ref g24, .int (nI sm2), .int w26, .int w27, .ref g28, .ref g29, .int w30, .ref g31, .ref g32, .ref g33])), (g1, .inl (T 0, 282, .inl ga)), (g15, .inl (T 0, 10, .inl gh)), (g23, .inl (T 1, 3001, .inr (.inl gs))), (g24, .inl (T 0, 8192, .inl gt))] ∧ MS n fa ga ∧ AG fb ga ∧ ¬ enB n fb st_ = true ∧ sm ≤ sm2 ∧ sm2 ≤ 3001 ∧ HT (VS n) cR hsR (inA V_ (scR n fb st_)) sm2 gs gt)
set_option maxHeartbeats 4000000 in
set_option maxRecDepth 100000 in
theorem m_doesAll_f (l : Launch) (D : va_G) (T : Nat → ClassId) (sv : Nat) (st_ : List Nat) (fb : Nat → Int32) (V_ : List (List Nat)) (n : Nat) (o : Nat) (w0 : Int32) (g1 : Nat) (g2 : Nat) (g3 : Nat) (g4 : Nat) (tp : Nat) (w6 : Int32) (w7 : Int32) (w8 : Int32) (w9 : Int32) (w10 : Int32) (w11 : Int32) (w12 : Int32) (w13 : Int32) (w14 : Int32) (g15 : Nat) (w16 : Int32) (g17 : Nat) (w18 : Int32) (w19 : Int32) (g20 : Nat) (w21 : Int32) (g22 : Nat) (g23 : Nat) (g24 : Nat) (sm : Nat) (w26 : Int32) (w27 : Int32) (g28 : Nat) (g29 : Nat) (w30 : Int32) (g31 : Nat) (g32 : Nat) (g33 : Nat) (fa : Nat → Int32) (fh : Nat → Int32) (fs : Nat → Int64) (fc : Nat → Int32) (h_a : MI n fa) (h_3 : n ≤ 3) (h_ht : HT (VS n) cR hsR V_ sm fs fc) (h_sv : sv = cdR st_) (h_vs : VS n st_) (h_b : MI n fb) (h_ag : AG fb fa) : Ct l yX8_doesAll cX8_doesAll 9 (some .boolean) 3 0 0 D T [.ref o, .long (Int64.ofNat sv)] [(o, .inr (8, [.int w0, .ref g1, .ref g2, .ref g3, .ref g4, .int (nI tp), .int w6, .int w7, .int w8, .int w9, .int w10, .int w11, .int w12, .int w13, .int w14, .ref g15, .int w16, .ref g17, .int w18, .int w19, .ref g20, .int w21, .ref g22, .ref g23, .ref g24, .int (nI sm), .int w26, .int w27, .ref g28, .ref g29, .int w30, .ref g31, .ref g32, .ref g33])), (g1, .inl (T 0, 282, .inl fa)), (g15, .inl (T 0, 10, .inl fh)), (g23, .inl (T 1, 3001, .inr (.inl fs))), (g24, .inl (T 0, 8192, .inl fc))] (q_m_doesAll_f T sv st_ fb V_ n o w0 g1 g2 g3 g4 tp w6 w7 w8 w9 w10 w11 w12 w13 w14 g15 w16 g17 w18 w19 g20 w21 g22 g23 g24 sm w26 w27 g28 g29 w30 g31 g32 g33 fa fh fs fc) := by
  refine Ct.of (cc := cX8_doesAll) (maxL := 9) (ret := (some .boolean)) (by decide) (Nat.le_of_ble_eq_true rfl) ?_
  intro p e s m args below meth c A ls hC hnm V hl
  obtain ⟨hx, hb, hr, hml, hown, hts, hlocks⟩ := id hC
  generalize hH : s.heap = H at V ⊢
  clear hH
  have hl : lv_has ls 9 [(0, .ref o), (1, .long (Int64.ofNat sv))] := hl
  generalize hlo : ([] : List Loc) = locs at V ⊢
  clear hlo
  have ms0 := ms_rf h_a
  have hn10 := h_a.1
  refine lv_iconst (v := (nI 1)) hx hb dX8_doesAll_0 (by decide +kernel) ?_
  refine lv_istore_n (lv' := [(3, .int (nI 1)), (0, .ref o), (1, .long (Int64.ofNat sv))]) hx hb dX8_doesAll_1 rfl hl (by decide) rfl (fun ls hl => ?_)
  refine lv_iconst (v := (nI 0)) hx hb dX8_doesAll_2 (by decide +kernel) ?_
  refine lv_istore (lv' := [(4, .int (nI 0)), (3, .int (nI 1)), (0, .ref o), (1, .long (Int64.ofNat sv))]) hx hb dX8_doesAll_3 hl (by decide) rfl (fun ls hl => ?_)
  have L_1 : ∀ (fu : Nat) (k5 : Nat) (wy : Nat), k5 ≤ n → wy = 3 ^ k5 → n - k5 < fu → ∀ (H : Heap) (locs : List Loc) (ls : Array Slot), gW D T A s [(o, .inr (8, [.int w0, .ref g1, .ref g2, .ref g3, .ref g4, .int (nI tp), .int w6, .int w7, .int w8, .int w9, .int w10, .int w11, .int w12, .int w13, .int w14, .ref g15, .int w16, .ref g17, .int w18, .int w19, .ref g20, .int w21, .ref g22, .ref g23, .ref g24, .int (nI sm), .int w26, .int w27, .ref g28, .ref g29, .int w30, .ref g31, .ref g32, .ref g33])), (g1, .inl (T 0, 282, .inl fa)), (g15, .inl (T 0, 10, .inl fh)), (g23, .inl (T 1, 3001, .inr (.inl fs))), (g24, .inl (T 0, 8192, .inl fc))] H locs → lv_has ls 9 [(4, .int (nI k5)), (3, .int (nI wy)), (0, .ref o), (1, .long (Int64.ofNat sv))] → W p l e (rmD 3 0 0) s m args below meth c H locs 0 0 (MQ below (gQ D A (q_m_doesAll_f T sv st_ fb V_ n o w0 g1 g2 g3 g4 tp w6 w7 w8 w9 w10 w11 w12 w13 w14 g15 w16 g17 w18 w19 g20 w21 g22 g23 g24 sm w26 w27 g28 g29 w30 g31 g32 g33 fa fh fs fc)) args s 0 0 A) (F0 m 5 ls []) := by
    intro fu_5
    induction fu_5 with
    | zero => intro k5 wy hk5 hwy hmu; exact absurd hmu (Nat.not_lt_zero _)
    | succ fu_5 ih_5 =>
      intro k5 wy hk5 hwy hmu_5 H locs ls V hl
      refine lv_iload hx hb dX8_doesAll_5 (lv_at hl 0 rfl) ?_
      refine lv_aload_n hx hb dX8_doesAll_7 rfl (lv_at hl 2 rfl) ?_
      refine g_get hC V (ci := 8) uwX8 0 rfl rfl 1 (by decide) w_913 rfl rfl dX8_doesAll_8 ?_
      refine lv_iconst (v := (nI 0)) hx hb dX8_doesAll_11 (by decide +kernel) ?_
      refine g_iald hC V 1 rfl (vp_in_nI (by decide) (by decide)) (v := (nI n)) (by rw [nI_clamp (by decide)]; first | rfl | exact h_a.2.1 | exact hf29.1.2.1) dX8_doesAll_12 ?_
      refine lv_icmp_ge (tgt := 26) hx hb dX8_doesAll_13 (by decide) (fun c_2 => ?_) (fun c_2 => ?_)
      · skip
        have c_2 := b_le (by omega) (by omega) c_2
        have hw3 : wy = 3 ^ n := by rw [hwy]; congr 1; omega
        have hw27 : wy ≤ 27 := by rw [hw3]; exact (p38 h_3).2
        refine lv_iconst (v := (nI 0)) hx hb dX8_doesAll_26 (by decide +kernel) ?_
        refine lv_istore (lv' := [(4, .int (nI 0)), (3, .int (nI wy)), (0, .ref o), (1, .long (Int64.ofNat sv))]) hx hb dX8_doesAll_27 hl (by decide) rfl (fun ls hl => ?_)
        have L_3 : ∀ (fu : Nat) (k29 : Nat) (sn_ : Nat) (bv : Int32) (gx : Nat → Int32) (gy : Nat → Int64) (gz : Nat → Int32) (f29 : Nat → Int32), k29 ≤ wy → MS n fa f29 → HT (VS n) cR hsR (inA V_ (scQ n fb st_ k29)) sn_ gy gz → AG fb f29 → sm ≤ sn_ → (∀ c_, c_ < k29 → ¬ ∀ i, i < n → dnzP (goF n (stF n fb st_) (nI (puN c_ n)) (nI (skN c_ n)) (-1) (nI 0)) i) → wy - k29 < fu → ∀ (H : Heap) (locs : List Loc) (ls : Array Slot), gW D T A s [(o, .inr (8, [.int w0, .ref g1, .ref g2, .ref g3, .ref g4, .int (nI tp), .int w6, .int w7, .int w8, .int w9, .int w10, .int w11, .int w12, .int w13, .int w14, .ref g15, .int bv, .ref g17, .int w18, .int w19, .ref g20, .int w21, .ref g22, .ref g23, .ref g24, .int (nI sn_), .int w26, .int w27, .ref g28, .ref g29, .int w30, .ref g31, .ref g32, .ref g33])), (g1, .inl (T 0, 282, .inl f29)), (g15, .inl (T 0, 10, .inl gx)), (g23, .inl (T 1, 3001, .inr (.inl gy))), (g24, .inl (T 0, 8192, .inl gz))] H locs → lv_has ls 9 [(4, .int (nI k29)), (3, .int (nI wy)), (0, .ref o), (1, .long (Int64.ofNat sv))] → W p l e (rmD 3 0 0) s m args below meth c H locs 0 0 (MQ below (gQ D A (q_m_doesAll_f T sv st_ fb V_ n o w0 g1 g2 g3 g4 tp w6 w7 w8 w9 w10 w11 w12 w13 w14 g15 w16 g17 w18 w19 g20 w21 g22 g23 g24 sm w26 w27 g28 g29 w30 g31 g32 g33 fa fh fs fc)) args s 0 0 A) (F0 m 29 ls []) := by
          intro fu_29
          induction fu_29 with
          | zero => intro k29 sn_ bv gx gy gz f29 hk29 hf29 hht hag hsn hno hmu; exact absurd hmu (Nat.not_lt_zero _)
          | succ fu_29 ih_29 =>
            intro k29 sn_ bv gx gy gz f29 hk29 hf29 hht hag hsn hno hmu_29 H locs ls V hl
            refine lv_iload hx hb dX8_doesAll_29 (lv_at hl 0 rfl) ?_
            refine lv_iload_n hx hb dX8_doesAll_31 rfl (lv_at hl 1 rfl) ?_
            refine lv_icmp_ge (tgt := 158) hx hb dX8_doesAll_32 (by decide) (fun c_4 => ?_) (fun c_4 => ?_)
            · skip
              have c_4 := b_le (by omega) (by omega) c_4
              refine lv_iconst (v := (nI 0)) hx hb dX8_doesAll_158 (by decide +kernel) ?_
              exact g_zret (Qr := (q_m_doesAll_f T sv st_ fb V_ n o w0 g1 g2 g3 g4 tp w6 w7 w8 w9 w10 w11 w12 w13 w14 g15 w16 g17 w18 w19 g20 w21 g22 g23 g24 sm w26 w27 g28 g29 w30 g31 g32 g33 fa fh fs fc)) hC V ⟨(Nat.le_of_ble_eq_true rfl), (Nat.le_of_ble_eq_true rfl)⟩ (by first | decide +kernel | exact rfl) (.inr ⟨bv, f29, gx, sn_, gy, gz, rfl, rfl, (by assumption), hag, (fun q => by obtain ⟨c_, hc_, hd_⟩ := en_2 h_3 h_b h_vs q; exact hno c_ (by rw [← hw3] at hc_; omega) hd_), (by omega), (by have := hht.2.1; omega), (by have q := hht; rw [show k29 = 3 ^ n by omega] at q; exact q)⟩) dX8_doesAll_159
            · skip
              have c_4 := b_nle (by omega) (by omega) c_4
              refine lv_iconst (v := (nI 0)) hx hb dX8_doesAll_35 (by decide +kernel) ?_
              refine lv_istore (lv' := [(5, .int (nI 0)), (4, .int (nI k29)), (3, .int (nI wy)), (0, .ref o), (1, .long (Int64.ofNat sv))]) hx hb dX8_doesAll_36 hl (by decide) rfl (fun ls hl => ?_)
              refine lv_iconst (v := (nI 0)) hx hb dX8_doesAll_38 (by decide +kernel) ?_
              refine lv_istore (lv' := [(6, .int (nI 0)), (5, .int (nI 0)), (4, .int (nI k29)), (3, .int (nI wy)), (0, .ref o), (1, .long (Int64.ofNat sv))]) hx hb dX8_doesAll_39 hl (by decide) rfl (fun ls hl => ?_)
              refine lv_iload hx hb dX8_doesAll_41 (lv_at hl 2 rfl) ?_
              refine lv_istore (lv' := [(7, .int (nI k29)), (6, .int (nI 0)), (5, .int (nI 0)), (4, .int (nI k29)), (3, .int (nI wy)), (0, .ref o), (1, .long (Int64.ofNat sv))]) hx hb dX8_doesAll_43 hl (by decide) rfl (fun ls hl => ?_)
              refine lv_iconst (v := (nI 0)) hx hb dX8_doesAll_45 (by decide +kernel) ?_
              refine lv_istore (lv' := [(8, .int (nI 0)), (7, .int (nI k29)), (6, .int (nI 0)), (5, .int (nI 0)), (4, .int (nI k29)), (3, .int (nI wy)), (0, .ref o), (1, .long (Int64.ofNat sv))]) hx hb dX8_doesAll_46 hl (by decide) rfl (fun ls hl => ?_)
              have L_5 : ∀ (fu : Nat) (k48 : Nat) (pu : Nat) (sk : Nat) (lf : Nat), k48 ≤ n → pu = puN k29 k48 → sk = skN k29 k48 → lf = k29 / 3 ^ k48 → lf ≤ k29 → n - k48 < fu → ∀ (H : Heap) (locs : List Loc) (ls : Array Slot), gW D T A s [(o, .inr (8, [.int w0, .ref g1, .ref g2, .ref g3, .ref g4, .int (nI tp), .int w6, .int w7, .int w8, .int w9, .int w10, .int w11, .int w12, .int w13, .int w14, .ref g15, .int bv, .ref g17, .int w18, .int w19, .ref g20, .int w21, .ref g22, .ref g23, .ref g24, .int (nI sn_), .int w26, .int w27, .ref g28, .ref g29, .int w30, .ref g31, .ref g32, .ref g33])), (g1, .inl (T 0, 282, .inl f29)), (g15, .inl (T 0, 10, .inl gx)), (g23, .inl (T 1, 3001, .inr (.inl gy))), (g24, .inl (T 0, 8192, .inl gz))] H locs → lv_has ls 9 [(8, .int (nI k48)), (7, .int (nI lf)), (6, .int (nI sk)), (5, .int (nI pu)), (4, .int (nI k29)), (3, .int (nI wy)), (0, .ref o), (1, .long (Int64.ofNat sv))] → W p l e (rmD 3 0 0) s m args below meth c H locs 0 0 (MQ below (gQ D A (q_m_doesAll_f T sv st_ fb V_ n o w0 g1 g2 g3 g4 tp w6 w7 w8 w9 w10 w11 w12 w13 w14 g15 w16 g17 w18 w19 g20 w21 g22 g23 g24 sm w26 w27 g28 g29 w30 g31 g32 g33 fa fh fs fc)) args s 0 0 A) (F0 m 48 ls []) := by
                intro fu_48
                induction fu_48 with
                | zero => intro k48 pu sk lf hk48 hpu hsk hlf hlb hmu; exact absurd hmu (Nat.not_lt_zero _)
                | succ fu_48 ih_48 =>
                  intro k48 pu sk lf hk48 hpu hsk hlf hlb hmu_48 H locs ls V hl
                  refine lv_iload hx hb dX8_doesAll_48 (lv_at hl 0 rfl) ?_
                  refine lv_aload_n hx hb dX8_doesAll_50 rfl (lv_at hl 6 rfl) ?_
                  refine g_get hC V (ci := 8) uwX8 0 rfl rfl 1 (by decide) w_913 rfl rfl dX8_doesAll_51 ?_
                  refine lv_iconst (v := (nI 0)) hx hb dX8_doesAll_54 (by decide +kernel) ?_
                  refine g_iald hC V 1 rfl (vp_in_nI (by decide) (by decide)) (v := (nI n)) (by rw [nI_clamp (by decide)]; first | rfl | exact h_a.2.1 | exact hf29.1.2.1) dX8_doesAll_55 ?_
                  refine lv_icmp_ge (tgt := 113) hx hb dX8_doesAll_56 (by decide) (fun c_6 => ?_) (fun c_6 => ?_)
                  · skip
                    have c_6 := b_le (by omega) (by omega) c_6
                    refine lv_aload_n hx hb dX8_doesAll_113 rfl (lv_at hl 6 rfl) ?_
                    refine lv_lload_n hx hb dX8_doesAll_114 rfl (lv_at hl 7 rfl) ?_
                    refine g_callVU (nA := 1) hC V hl.1 (m_becomes_f l D T sv st_ fb n o w0 g1 g2 g3 g4 tp w6 w7 w8 w9 w10 w11 w12 w13 w14 g15 bv g17 w18 w19 g20 w21 g22 g23 g24 (nI sn_) w26 w27 g28 g29 w30 g31 g32 g33 f29 hf29.1 (by first | assumption | omega) (by first | assumption | omega) (by first | assumption | omega) hag) w_1295 w_1297 w_s72 w_9 w_1298 (by decide +kernel) rfl ⟨(Nat.le_of_ble_eq_true rfl), (Nat.le_of_ble_eq_true rfl)⟩ 0 (ci := 8) rfl rfl [0, 1] rfl rfl (Nat.le_of_ble_eq_true rfl) dX8_doesAll_115 ⟨(Nat.le_of_ble_eq_true rfl), (Nat.le_of_ble_eq_true rfl)⟩ rfl (fun r w1 H locs hQ V => ?_)
                    obtain ⟨ga_7, rfl, rfl, f_8, f_9, f_10⟩ := hQ
                    have V : gW D T A s [(o, .inr (8, [.int w0, .ref g1, .ref g2, .ref g3, .ref g4, .int (nI tp), .int w6, .int w7, .int w8, .int w9, .int w10, .int w11, .int w12, .int w13, .int w14, .ref g15, .int bv, .ref g17, .int w18, .int w19, .ref g20, .int w21, .ref g22, .ref g23, .ref g24, .int (nI sn_), .int w26, .int w27, .ref g28, .ref g29, .int w30, .ref g31, .ref g32, .ref g33])), (g1, .inl (T 0, 282, .inl ga_7)), (g15, .inl (T 0, 10, .inl gx)), (g23, .inl (T 1, 3001, .inr (.inl gy))), (g24, .inl (T 0, 8192, .inl gz))] H locs := V _ [0, 0] rfl rfl rfl (by decide +kernel) rfl
                    show W p l e _ s m args below meth c H locs _ _ _ (F0 m 118 ls [])
                    have hga_7 : MS n fa ga_7 := ms_tr (by assumption) f_8
                    refine lv_aload_n hx hb dX8_doesAll_118 rfl (lv_at hl 6 rfl) ?_
                    refine lv_iload hx hb dX8_doesAll_119 (lv_at hl 3 rfl) ?_
                    refine lv_iload hx hb dX8_doesAll_121 (lv_at hl 2 rfl) ?_
                    refine lv_iconst (v := (-1)) hx hb dX8_doesAll_123 (by decide +kernel) ?_
                    refine lv_iconst (v := (nI 0)) hx hb dX8_doesAll_124 (by decide +kernel) ?_
                    refine g_callVU (nA := 4) hC V hl.1 (m_goes_f l D T n o (nI pu) (nI sk) (-1) (nI 0) w0 g1 g2 g3 g4 tp w6 w7 w8 w9 w10 w11 w12 w13 w14 g15 bv g17 w18 w19 g20 w21 g22 g23 g24 (nI sn_) w26 w27 g28 g29 w30 g31 g32 g33 ga_7 gx hga_7.1) w_1122 w_1124 w_s50 w_9 w_1125 (by decide +kernel) rfl ⟨(Nat.le_of_ble_eq_true rfl), (Nat.le_of_ble_eq_true rfl)⟩ 0 (ci := 8) rfl rfl [0, 1, 2] rfl rfl (Nat.le_of_ble_eq_true rfl) dX8_doesAll_125 ⟨(Nat.le_of_ble_eq_true rfl), (Nat.le_of_ble_eq_true rfl)⟩ rfl (fun r w1 H locs hQ V => ?_)
                    obtain ⟨z_11, bm_12, ga_13, gh_14, rfl, rfl, f_15, f_16, f_17, f_18⟩ := hQ
                    have V : gW D T A s [(o, .inr (8, [.int w0, .ref g1, .ref g2, .ref g3, .ref g4, .int (nI tp), .int w6, .int w7, .int w8, .int w9, .int w10, .int w11, .int w12, .int w13, .int w14, .ref g15, .int bm_12, .ref g17, .int w18, .int w19, .ref g20, .int w21, .ref g22, .ref g23, .ref g24, .int (nI sn_), .int w26, .int w27, .ref g28, .ref g29, .int w30, .ref g31, .ref g32, .ref g33])), (g1, .inl (T 0, 282, .inl ga_13)), (g15, .inl (T 0, 10, .inl gh_14)), (g23, .inl (T 1, 3001, .inr (.inl gy))), (g24, .inl (T 0, 8192, .inl gz))] H locs := V _ [0, 0, 0] rfl rfl rfl (by decide +kernel) rfl
                    show W p l e _ s m args below meth c H locs _ _ _ (F0 m 128 ls [.int z_11])
                    have hga_13 : MS n fa ga_13 := ms_tr (by assumption) f_15
                    have hpn : pu = puN k29 n := by rw [hpu]; congr 1; omega
                    have hkn : sk = skN k29 n := by rw [hsk]; congr 1; omega
                    refine lv_pop hx hb dX8_doesAll_128 rfl ?_
                    refine lv_aload_n hx hb dX8_doesAll_129 rfl (lv_at hl 6 rfl) ?_
                    refine g_callVU (nA := 0) hC V hl.1 (m_doneMany_f l D T n o w0 g1 g2 g3 g4 tp w6 w7 w8 w9 w10 w11 w12 w13 w14 g15 bm_12 g17 w18 w19 g20 w21 g22 g23 g24 (nI sn_) w26 w27 g28 g29 w30 g31 g32 g33 ga_13 hga_13.1) w_1158 w_1160 w_s56 w_9 w_1161 (by decide +kernel) rfl ⟨(Nat.le_of_ble_eq_true rfl), (Nat.le_of_ble_eq_true rfl)⟩ 0 (ci := 8) rfl rfl [0, 1] rfl rfl (Nat.le_of_ble_eq_true rfl) dX8_doesAll_130 ⟨(Nat.le_of_ble_eq_true rfl), (Nat.le_of_ble_eq_true rfl)⟩ rfl (fun r w1 H locs hQ V => ?_)
                    obtain ⟨z_19, rfl, rfl, f_20⟩ := hQ
                    have V : gW D T A s [(o, .inr (8, [.int w0, .ref g1, .ref g2, .ref g3, .ref g4, .int (nI tp), .int w6, .int w7, .int w8, .int w9, .int w10, .int w11, .int w12, .int w13, .int w14, .ref g15, .int bm_12, .ref g17, .int w18, .int w19, .ref g20, .int w21, .ref g22, .ref g23, .ref g24, .int (nI sn_), .int w26, .int w27, .ref g28, .ref g29, .int w30, .ref g31, .ref g32, .ref g33])), (g1, .inl (T 0, 282, .inl ga_13)), (g15, .inl (T 0, 10, .inl gh_14)), (g23, .inl (T 1, 3001, .inr (.inl gy))), (g24, .inl (T 0, 8192, .inl gz))] H locs := V _ [0, 0] rfl rfl rfl (by decide +kernel) rfl
                    show W p l e _ s m args below meth c H locs _ _ _ (F0 m 133 ls [.int z_19])
                    refine lv_aload_n hx hb dX8_doesAll_133 rfl (lv_at hl 6 rfl) ?_
                    refine g_get hC V (ci := 8) uwX8 0 rfl rfl 1 (by decide) w_913 rfl rfl dX8_doesAll_134 ?_
                    refine lv_iconst (v := (nI 0)) hx hb dX8_doesAll_137 (by decide +kernel) ?_
                    refine g_iald hC V 1 rfl (vp_in_nI (by decide) (by decide)) (v := (nI n)) (by rw [nI_clamp (by decide)]; first | rfl | exact h_a.2.1 | exact hf29.1.2.1 | exact hga_7.1.2.1 | exact hga_13.1.2.1) dX8_doesAll_138 ?_
                    refine lv_icmp_ne (tgt := 144) hx hb dX8_doesAll_139 (by decide) (fun c_21 => ?_) (fun c_21 => ?_)
                    · skip
                      refine lv_aload_n hx hb dX8_doesAll_144 rfl (lv_at hl 6 rfl) ?_
                      refine lv_aload_n hx hb dX8_doesAll_145 rfl (lv_at hl 6 rfl) ?_
                      refine g_callVU (nA := 0) hC V hl.1 (m_state_f l D T n o w0 g1 g2 g3 g4 tp w6 w7 w8 w9 w10 w11 w12 w13 w14 g15 bm_12 g17 w18 w19 g20 w21 g22 g23 g24 (nI sn_) w26 w27 g28 g29 w30 g31 g32 g33 ga_13 hga_13.1 (by first | assumption | omega)) w_1281 w_1283 w_s69 w_9 w_1284 (by decide +kernel) rfl ⟨(Nat.le_of_ble_eq_true rfl), (Nat.le_of_ble_eq_true rfl)⟩ 0 (ci := 8) rfl rfl [0, 1] rfl rfl (Nat.le_of_ble_eq_true rfl) dX8_doesAll_146 ⟨(Nat.le_of_ble_eq_true rfl), (Nat.le_of_ble_eq_true rfl)⟩ rfl (fun r w1 H locs hQ V => ?_)
                      obtain ⟨r_22, rfl, rfl, f_23⟩ := hQ
                      have V : gW D T A s [(o, .inr (8, [.int w0, .ref g1, .ref g2, .ref g3, .ref g4, .int (nI tp), .int w6, .int w7, .int w8, .int w9, .int w10, .int w11, .int w12, .int w13, .int w14, .ref g15, .int bm_12, .ref g17, .int w18, .int w19, .ref g20, .int w21, .ref g22, .ref g23, .ref g24, .int (nI sn_), .int w26, .int w27, .ref g28, .ref g29, .int w30, .ref g31, .ref g32, .ref g33])), (g1, .inl (T 0, 282, .inl ga_13)), (g15, .inl (T 0, 10, .inl gh_14)), (g23, .inl (T 1, 3001, .inr (.inl gy))), (g24, .inl (T 0, 8192, .inl gz))] H locs := V _ [0, 0] rfl rfl rfl (by decide +kernel) rfl
                      show W p l e _ s m args below meth c H locs _ _ _ (F0 m 149 ls [.long (Int64.ofNat r_22), .ref o])
                      refine g_callVU (nA := 1) hC V hl.1 (m_meets_f l D T r_22 n (inA V_ (scQ n fb st_ k29)) (nx n fb st_ (puN k29 n) (skN k29 n)) o w0 g1 g2 g3 g4 tp w6 w7 w8 w9 w10 w11 w12 w13 w14 g15 bm_12 g17 w18 w19 g20 w21 g22 g23 g24 sn_ w26 w27 g28 g29 w30 g31 g32 g33 gy gz hht (nx_vs h_b h_vs) (nx_go hn10 f_9 f_10 hpn hkn f_17 f_23) h_3) w_1286 w_1288 w_s70 w_9 w_1289 (by decide +kernel) rfl ⟨(Nat.le_of_ble_eq_true rfl), (Nat.le_of_ble_eq_true rfl)⟩ 0 (ci := 8) rfl rfl [0, 3, 4] rfl rfl (Nat.le_of_ble_eq_true rfl) dX8_doesAll_149 ⟨(Nat.le_of_ble_eq_true rfl), (Nat.le_of_ble_eq_true rfl)⟩ rfl (fun r w1 H locs hQ V => ?_)
                      obtain ⟨sm2_24, gs_25, gt_26, rfl, rfl, f_27, f_28, f_29⟩ := hQ
                      have V : gW D T A s [(o, .inr (8, [.int w0, .ref g1, .ref g2, .ref g3, .ref g4, .int (nI tp), .int w6, .int w7, .int w8, .int w9, .int w10, .int w11, .int w12, .int w13, .int w14, .ref g15, .int bm_12, .ref g17, .int w18, .int w19, .ref g20, .int w21, .ref g22, .ref g23, .ref g24, .int (nI sm2_24), .int w26, .int w27, .ref g28, .ref g29, .int w30, .ref g31, .ref g32, .ref g33])), (g1, .inl (T 0, 282, .inl ga_13)), (g15, .inl (T 0, 10, .inl gh_14)), (g23, .inl (T 1, 3001, .inr (.inl gs_25))), (g24, .inl (T 0, 8192, .inl gt_26))] H locs := V _ [0, 2, 0] rfl rfl rfl (by decide +kernel) rfl
                      show W p l e _ s m args below meth c H locs _ _ _ (F0 m 152 ls [])
                      refine lv_iinc (v := (nI (k29 + 1))) (lv' := [(4, .int (nI (k29 + 1))), (8, .int (nI k48)), (7, .int (nI lf)), (6, .int (nI sk)), (5, .int (nI pu)), (3, .int (nI wy)), (0, .ref o), (1, .long (Int64.ofNat sv))]) hx hb dX8_doesAll_152 hl (k := 4) rfl (nI_1 _) (by decide) rfl (fun ls hl => ?_)
                      refine lv_goto (tgt := 29) hx hb dX8_doesAll_155 (by decide) ?_
                      exact ih_29 (k29 + 1) sm2_24 bm_12 gh_14 gs_25 gt_26 ga_13 (by omega) (by assumption) (hq_s f_27) (by rw [f_17]; exact ag_go hn10 f_9) (Nat.le_trans hsn f_28) (fun c_ hc_ => if q : c_ = k29 then by rw [q]; exact (fun r => c_21 ((don_y hn10 f_20).mpr ((dn_go hn10 f_9 f_10 hpn hkn f_17).mpr r))) else hno c_ (by omega)) (by omega) _ _ _ V (lv_sub hl [0, 5, 6, 7] rfl)
                    · skip
                      refine lv_iconst (v := (nI 1)) hx hb dX8_doesAll_142 (by decide +kernel) ?_
                      exact g_zret (Qr := (q_m_doesAll_f T sv st_ fb V_ n o w0 g1 g2 g3 g4 tp w6 w7 w8 w9 w10 w11 w12 w13 w14 g15 w16 g17 w18 w19 g20 w21 g22 g23 g24 sm w26 w27 g28 g29 w30 g31 g32 g33 fa fh fs fc)) hC V ⟨(Nat.le_of_ble_eq_true rfl), (Nat.le_of_ble_eq_true rfl)⟩ (by first | decide +kernel | exact rfl) (.inl ⟨bm_12, ga_13, gh_14, sn_, gy, gz, rfl, rfl, (by assumption), (by rw [f_17]; exact ag_go hn10 f_9), (en_1 h_b h_vs ((dn_go hn10 f_9 f_10 hpn hkn f_17).mp ((don_y hn10 f_20).mp c_21))), (by omega), (by have := hht.2.1; omega)⟩) dX8_doesAll_143
                  · skip
                    have c_6 := b_nle (by omega) (by omega) c_6
                    refine lv_iload hx hb dX8_doesAll_59 (lv_at hl 3 rfl) ?_
                    refine lv_iload hx hb dX8_doesAll_61 (lv_at hl 1 rfl) ?_
                    refine lv_iconst (v := (nI 3)) hx hb dX8_doesAll_63 (by decide +kernel) ?_
                    refine lv_irem hx hb dX8_doesAll_64 (by decide +kernel) ?_
                    refine g_vi (y := (nI (lf % 3))) (nI_rem (by omega) (by omega)) ?_
                    refine lv_iconst (v := (nI 1)) hx hb dX8_doesAll_65 (by decide +kernel) ?_
                    refine lv_icmp_ne (tgt := 76) hx hb dX8_doesAll_66 (by decide) (fun c_30 => ?_) (fun c_30 => ?_)
                    · skip
                      have c_30 := b_ne (by omega) (by omega) c_30
                      refine lv_iconst (v := (nI 0)) hx hb dX8_doesAll_76 (by decide +kernel) ?_
                      refine lv_ior hx hb dX8_doesAll_77 ?_
                      refine g_vi (y := nI pu) (or_80 _) ?_
                      refine lv_istore (lv' := [(5, .int (nI pu)), (8, .int (nI k48)), (7, .int (nI lf)), (6, .int (nI sk)), (4, .int (nI k29)), (3, .int (nI wy)), (0, .ref o), (1, .long (Int64.ofNat sv))]) hx hb dX8_doesAll_78 hl (by decide) rfl (fun ls hl => ?_)
                      refine lv_iload hx hb dX8_doesAll_80 (lv_at hl 3 rfl) ?_
                      refine lv_iload hx hb dX8_doesAll_82 (lv_at hl 2 rfl) ?_
                      refine lv_iconst (v := (nI 3)) hx hb dX8_doesAll_84 (by decide +kernel) ?_
                      refine lv_irem hx hb dX8_doesAll_85 (by decide +kernel) ?_
                      refine g_vi (y := (nI (lf % 3))) (nI_rem (by omega) (by omega)) ?_
                      refine lv_iconst (v := (nI 2)) hx hb dX8_doesAll_86 (by decide +kernel) ?_
                      refine lv_icmp_ne (tgt := 97) hx hb dX8_doesAll_87 (by decide) (fun c_31 => ?_) (fun c_31 => ?_)
                      · skip
                        have c_31 := b_ne (by omega) (by omega) c_31
                        refine lv_iconst (v := (nI 0)) hx hb dX8_doesAll_97 (by decide +kernel) ?_
                        refine lv_ior hx hb dX8_doesAll_98 ?_
                        refine g_vi (y := nI sk) (or_80 _) ?_
                        refine lv_istore (lv' := [(6, .int (nI sk)), (5, .int (nI pu)), (8, .int (nI k48)), (7, .int (nI lf)), (4, .int (nI k29)), (3, .int (nI wy)), (0, .ref o), (1, .long (Int64.ofNat sv))]) hx hb dX8_doesAll_99 hl (by decide) rfl (fun ls hl => ?_)
                        refine lv_iload hx hb dX8_doesAll_101 (lv_at hl 3 rfl) ?_
                        refine lv_iconst (v := (nI 3)) hx hb dX8_doesAll_103 (by decide +kernel) ?_
                        refine lv_idiv hx hb dX8_doesAll_104 (by decide +kernel) ?_
                        refine g_vi (y := (nI (lf / 3))) (nI_div (by omega) (by omega)) ?_
                        refine lv_istore (lv' := [(7, .int (nI (lf / 3))), (6, .int (nI sk)), (5, .int (nI pu)), (8, .int (nI k48)), (4, .int (nI k29)), (3, .int (nI wy)), (0, .ref o), (1, .long (Int64.ofNat sv))]) hx hb dX8_doesAll_105 hl (by decide) rfl (fun ls hl => ?_)
                        refine lv_iinc (v := (nI (k48 + 1))) (lv' := [(8, .int (nI (k48 + 1))), (7, .int (nI (lf / 3))), (6, .int (nI sk)), (5, .int (nI pu)), (4, .int (nI k29)), (3, .int (nI wy)), (0, .ref o), (1, .long (Int64.ofNat sv))]) hx hb dX8_doesAll_107 hl (k := 3) rfl (nI_1 _) (by decide) rfl (fun ls hl => ?_)
                        refine lv_goto (tgt := 48) hx hb dX8_doesAll_110 (by decide) ?_
                        exact ih_48 (k48 + 1) pu sk (lf / 3) (by omega) (by rw [hpu]; exact pu_0 (by rw [← hlf]; exact c_30)) (by rw [hsk]; exact sk_0 (by rw [← hlf]; exact c_31)) (lf_s hlf) (by omega) (by omega) _ _ _ V (lv_sub hl [0, 1, 2, 3, 4, 5, 6, 7] rfl)
                      · skip
                        have c_31 := b_eq (by omega) (by omega) c_31
                        refine lv_iconst (v := (nI 1)) hx hb dX8_doesAll_90 (by decide +kernel) ?_
                        refine lv_iload hx hb dX8_doesAll_91 (lv_at hl 1 rfl) ?_
                        refine lv_ishl hx hb dX8_doesAll_93 ?_
                        refine g_vi (y := (nI (2 ^ k48))) (shl_pow (by omega)) ?_
                        refine lv_goto (tgt := 98) hx hb dX8_doesAll_94 (by decide) ?_
                        refine lv_ior hx hb dX8_doesAll_98 ?_
                        refine g_vi (y := nI (sk + 2 ^ k48)) (or_8 (by omega) (by rw [hsk]; exact (pu_lt _ _).2)) ?_
                        refine lv_istore (lv' := [(6, .int (nI (sk + 2 ^ k48))), (5, .int (nI pu)), (8, .int (nI k48)), (7, .int (nI lf)), (4, .int (nI k29)), (3, .int (nI wy)), (0, .ref o), (1, .long (Int64.ofNat sv))]) hx hb dX8_doesAll_99 hl (by decide) rfl (fun ls hl => ?_)
                        refine lv_iload hx hb dX8_doesAll_101 (lv_at hl 3 rfl) ?_
                        refine lv_iconst (v := (nI 3)) hx hb dX8_doesAll_103 (by decide +kernel) ?_
                        refine lv_idiv hx hb dX8_doesAll_104 (by decide +kernel) ?_
                        refine g_vi (y := (nI (lf / 3))) (nI_div (by omega) (by omega)) ?_
                        refine lv_istore (lv' := [(7, .int (nI (lf / 3))), (6, .int (nI (sk + 2 ^ k48))), (5, .int (nI pu)), (8, .int (nI k48)), (4, .int (nI k29)), (3, .int (nI wy)), (0, .ref o), (1, .long (Int64.ofNat sv))]) hx hb dX8_doesAll_105 hl (by decide) rfl (fun ls hl => ?_)
                        refine lv_iinc (v := (nI (k48 + 1))) (lv' := [(8, .int (nI (k48 + 1))), (7, .int (nI (lf / 3))), (6, .int (nI (sk + 2 ^ k48))), (5, .int (nI pu)), (4, .int (nI k29)), (3, .int (nI wy)), (0, .ref o), (1, .long (Int64.ofNat sv))]) hx hb dX8_doesAll_107 hl (k := 3) rfl (nI_1 _) (by decide) rfl (fun ls hl => ?_)
                        refine lv_goto (tgt := 48) hx hb dX8_doesAll_110 (by decide) ?_
                        exact ih_48 (k48 + 1) pu (sk + 2 ^ k48) (lf / 3) (by omega) (by rw [hpu]; exact pu_0 (by rw [← hlf]; exact c_30)) (by rw [hsk]; exact sk_1 (by rw [← hlf]; exact c_31)) (lf_s hlf) (by omega) (by omega) _ _ _ V (lv_sub hl [0, 1, 2, 3, 4, 5, 6, 7] rfl)
                    · skip
                      have c_30 := b_eq (by omega) (by omega) c_30
                      refine lv_iconst (v := (nI 1)) hx hb dX8_doesAll_69 (by decide +kernel) ?_
                      refine lv_iload hx hb dX8_doesAll_70 (lv_at hl 0 rfl) ?_
                      refine lv_ishl hx hb dX8_doesAll_72 ?_
                      refine g_vi (y := (nI (2 ^ k48))) (shl_pow (by omega)) ?_
                      refine lv_goto (tgt := 77) hx hb dX8_doesAll_73 (by decide) ?_
                      refine lv_ior hx hb dX8_doesAll_77 ?_
                      refine g_vi (y := nI (pu + 2 ^ k48)) (or_8 (by omega) (by rw [hpu]; exact (pu_lt _ _).1)) ?_
                      refine lv_istore (lv' := [(5, .int (nI (pu + 2 ^ k48))), (8, .int (nI k48)), (7, .int (nI lf)), (6, .int (nI sk)), (4, .int (nI k29)), (3, .int (nI wy)), (0, .ref o), (1, .long (Int64.ofNat sv))]) hx hb dX8_doesAll_78 hl (by decide) rfl (fun ls hl => ?_)
                      refine lv_iload hx hb dX8_doesAll_80 (lv_at hl 3 rfl) ?_
                      refine lv_iload hx hb dX8_doesAll_82 (lv_at hl 2 rfl) ?_
                      refine lv_iconst (v := (nI 3)) hx hb dX8_doesAll_84 (by decide +kernel) ?_
                      refine lv_irem hx hb dX8_doesAll_85 (by decide +kernel) ?_
                      refine g_vi (y := (nI (lf % 3))) (nI_rem (by omega) (by omega)) ?_
                      refine lv_iconst (v := (nI 2)) hx hb dX8_doesAll_86 (by decide +kernel) ?_
                      refine lv_icmp_ne (tgt := 97) hx hb dX8_doesAll_87 (by decide) (fun c_32 => ?_) (fun c_32 => ?_)
                      · skip
                        have c_32 := b_ne (by omega) (by omega) c_32
                        refine lv_iconst (v := (nI 0)) hx hb dX8_doesAll_97 (by decide +kernel) ?_
                        refine lv_ior hx hb dX8_doesAll_98 ?_
                        refine g_vi (y := nI sk) (or_80 _) ?_
                        refine lv_istore (lv' := [(6, .int (nI sk)), (5, .int (nI (pu + 2 ^ k48))), (8, .int (nI k48)), (7, .int (nI lf)), (4, .int (nI k29)), (3, .int (nI wy)), (0, .ref o), (1, .long (Int64.ofNat sv))]) hx hb dX8_doesAll_99 hl (by decide) rfl (fun ls hl => ?_)
                        refine lv_iload hx hb dX8_doesAll_101 (lv_at hl 3 rfl) ?_
                        refine lv_iconst (v := (nI 3)) hx hb dX8_doesAll_103 (by decide +kernel) ?_
                        refine lv_idiv hx hb dX8_doesAll_104 (by decide +kernel) ?_
                        refine g_vi (y := (nI (lf / 3))) (nI_div (by omega) (by omega)) ?_
                        refine lv_istore (lv' := [(7, .int (nI (lf / 3))), (6, .int (nI sk)), (5, .int (nI (pu + 2 ^ k48))), (8, .int (nI k48)), (4, .int (nI k29)), (3, .int (nI wy)), (0, .ref o), (1, .long (Int64.ofNat sv))]) hx hb dX8_doesAll_105 hl (by decide) rfl (fun ls hl => ?_)
                        refine lv_iinc (v := (nI (k48 + 1))) (lv' := [(8, .int (nI (k48 + 1))), (7, .int (nI (lf / 3))), (6, .int (nI sk)), (5, .int (nI (pu + 2 ^ k48))), (4, .int (nI k29)), (3, .int (nI wy)), (0, .ref o), (1, .long (Int64.ofNat sv))]) hx hb dX8_doesAll_107 hl (k := 3) rfl (nI_1 _) (by decide) rfl (fun ls hl => ?_)
                        refine lv_goto (tgt := 48) hx hb dX8_doesAll_110 (by decide) ?_
                        exact ih_48 (k48 + 1) (pu + 2 ^ k48) sk (lf / 3) (by omega) (by rw [hpu]; exact pu_1 (by rw [← hlf]; exact c_30)) (by rw [hsk]; exact sk_0 (by rw [← hlf]; exact c_32)) (lf_s hlf) (by omega) (by omega) _ _ _ V (lv_sub hl [0, 1, 2, 3, 4, 5, 6, 7] rfl)
                      · skip
                        have c_32 := b_eq (by omega) (by omega) c_32
                        refine lv_iconst (v := (nI 1)) hx hb dX8_doesAll_90 (by decide +kernel) ?_
                        refine lv_iload hx hb dX8_doesAll_91 (lv_at hl 1 rfl) ?_
                        refine lv_ishl hx hb dX8_doesAll_93 ?_
                        refine g_vi (y := (nI (2 ^ k48))) (shl_pow (by omega)) ?_
                        refine lv_goto (tgt := 98) hx hb dX8_doesAll_94 (by decide) ?_
                        refine lv_ior hx hb dX8_doesAll_98 ?_
                        refine g_vi (y := nI (sk + 2 ^ k48)) (or_8 (by omega) (by rw [hsk]; exact (pu_lt _ _).2)) ?_
                        refine lv_istore (lv' := [(6, .int (nI (sk + 2 ^ k48))), (5, .int (nI (pu + 2 ^ k48))), (8, .int (nI k48)), (7, .int (nI lf)), (4, .int (nI k29)), (3, .int (nI wy)), (0, .ref o), (1, .long (Int64.ofNat sv))]) hx hb dX8_doesAll_99 hl (by decide) rfl (fun ls hl => ?_)
                        refine lv_iload hx hb dX8_doesAll_101 (lv_at hl 3 rfl) ?_
                        refine lv_iconst (v := (nI 3)) hx hb dX8_doesAll_103 (by decide +kernel) ?_
                        refine lv_idiv hx hb dX8_doesAll_104 (by decide +kernel) ?_
                        refine g_vi (y := (nI (lf / 3))) (nI_div (by omega) (by omega)) ?_
                        refine lv_istore (lv' := [(7, .int (nI (lf / 3))), (6, .int (nI (sk + 2 ^ k48))), (5, .int (nI (pu + 2 ^ k48))), (8, .int (nI k48)), (4, .int (nI k29)), (3, .int (nI wy)), (0, .ref o), (1, .long (Int64.ofNat sv))]) hx hb dX8_doesAll_105 hl (by decide) rfl (fun ls hl => ?_)
                        refine lv_iinc (v := (nI (k48 + 1))) (lv' := [(8, .int (nI (k48 + 1))), (7, .int (nI (lf / 3))), (6, .int (nI (sk + 2 ^ k48))), (5, .int (nI (pu + 2 ^ k48))), (4, .int (nI k29)), (3, .int (nI wy)), (0, .ref o), (1, .long (Int64.ofNat sv))]) hx hb dX8_doesAll_107 hl (k := 3) rfl (nI_1 _) (by decide) rfl (fun ls hl => ?_)
                        refine lv_goto (tgt := 48) hx hb dX8_doesAll_110 (by decide) ?_
                        exact ih_48 (k48 + 1) (pu + 2 ^ k48) (sk + 2 ^ k48) (lf / 3) (by omega) (by rw [hpu]; exact pu_1 (by rw [← hlf]; exact c_30)) (by rw [hsk]; exact sk_1 (by rw [← hlf]; exact c_32)) (lf_s hlf) (by omega) (by omega) _ _ _ V (lv_sub hl [0, 1, 2, 3, 4, 5, 6, 7] rfl)
              exact L_5 _ 0 0 0 k29 (by omega) rfl rfl (by rw [Nat.pow_zero, Nat.div_one]) (Nat.le_refl _) (Nat.lt_succ_self _) _ _ _ V (lv_sub hl [0, 1, 2, 3, 4, 5, 6, 7] rfl)
        exact L_3 _ 0 sm w16 fh fs fc fa (by omega) (by assumption) h_ht h_ag (Nat.le_refl _) (fun i h => absurd h (Nat.not_lt_zero _)) (Nat.lt_succ_self _) _ _ _ V (lv_sub hl [0, 1, 2, 3] rfl)
      · skip
        have c_2 := b_nle (by omega) (by omega) c_2
        refine lv_iload_n hx hb dX8_doesAll_16 rfl (lv_at hl 1 rfl) ?_
        refine lv_iconst (v := (nI 3)) hx hb dX8_doesAll_17 (by decide +kernel) ?_
        refine lv_imul hx hb dX8_doesAll_18 ?_
        refine g_vi (y := (nI (wy * 3))) (pk_mul _ _) ?_
        refine lv_istore_n (lv' := [(3, .int (nI (wy * 3))), (4, .int (nI k5)), (0, .ref o), (1, .long (Int64.ofNat sv))]) hx hb dX8_doesAll_19 rfl hl (by decide) rfl (fun ls hl => ?_)
        refine lv_iinc (v := (nI (k5 + 1))) (lv' := [(4, .int (nI (k5 + 1))), (3, .int (nI (wy * 3))), (0, .ref o), (1, .long (Int64.ofNat sv))]) hx hb dX8_doesAll_20 hl (k := 1) rfl (nI_1 _) (by decide) rfl (fun ls hl => ?_)
        refine lv_goto (tgt := 5) hx hb dX8_doesAll_23 (by decide) ?_
        exact ih_5 (k5 + 1) (wy * 3) (by omega) (by rw [hwy, Nat.pow_succ]) (by omega) _ _ _ V (lv_sub hl [0, 1, 2, 3] rfl)
  exact L_1 _ 0 1 (by omega) rfl (Nat.lt_succ_self _) _ _ _ V (lv_sub hl [0, 1, 2, 3] rfl)

def q_m_soonest_f (T : Nat → ClassId) (n : Nat) (o : Nat) (w0 : Int32) (g1 : Nat) (g2 : Nat) (g3 : Nat) (g4 : Nat) (tp : Nat) (w6 : Int32) (w7 : Int32) (w8 : Int32) (w9 : Int32) (w10 : Int32) (w11 : Int32) (w12 : Int32) (w13 : Int32) (w14 : Int32) (g15 : Nat) (w16 : Int32) (g17 : Nat) (w18 : Int32) (w19 : Int32) (g20 : Nat) (w21 : Int32) (g22 : Nat) (g23 : Nat) (g24 : Nat) (w25 : Int32) (w26 : Int32) (w27 : Int32) (g28 : Nat) (g29 : Nat) (w30 : Int32) (g31 : Nat) (g32 : Nat) (g33 : Nat) (fa : Nat → Int32) (fh : Nat → Int32) (fk : Nat → Int32) (fs : Nat → Int64) (fc : Nat → Int32) : Option Value → va_W → Prop := fun rr ww => (∃ (z : Int32) (sq : Int32) (bm : Int32) (gh : Nat → Int32) (gk : Nat → Int32) (gs : Nat → Int64) (gt : Nat → Int32), rr = some (.int z) ∧ ww = [(o, .inr (8, [.int (nI 0), .ref g1, .ref g2, .ref g3, .ref g4, .int (nI tp), .int w6, .int w7, .int w8, .int w9, .int w10, .int w11, .int w12, .int w13, .int w14, .ref g15, .int bm, .ref g17, .int w18, .int w19, .ref g20, .int w21, .ref g22, .ref g23, .ref g24, .int sq, .int w26, .int w27, .ref g28, .ref g29, .int w30, .ref g31, .ref g32, .ref g33])), (g1, .inl (T 0, 282, .inl fa)), (g15, .inl (T 0, 10, .inl gh)), (g17, .inl (T 0, 94, .inl gk)), (g23, .inl (T 1, 3001, .inr (.inl gs))), (g24, .inl (T 0, 8192, .inl gt))] ∧ z = sooA n fa)
set_option maxHeartbeats 4000000 in
set_option maxRecDepth 100000 in
theorem m_soonest_f (l : Launch) (D : va_G) (T : Nat → ClassId) (n : Nat) (o : Nat) (w0 : Int32) (g1 : Nat) (g2 : Nat) (g3 : Nat) (g4 : Nat) (tp : Nat) (w6 : Int32) (w7 : Int32) (w8 : Int32) (w9 : Int32) (w10 : Int32) (w11 : Int32) (w12 : Int32) (w13 : Int32) (w14 : Int32) (g15 : Nat) (w16 : Int32) (g17 : Nat) (w18 : Int32) (w19 : Int32) (g20 : Nat) (w21 : Int32) (g22 : Nat) (g23 : Nat) (g24 : Nat) (w25 : Int32) (w26 : Int32) (w27 : Int32) (g28 : Nat) (g29 : Nat) (w30 : Int32) (g31 : Nat) (g32 : Nat) (g33 : Nat) (fa : Nat → Int32) (fh : Nat → Int32) (fk : Nat → Int32) (fs : Nat → Int64) (fc : Nat → Int32) (h_a : MI n fa) : Ct l yX8_soonest cX8_soonest 6 (some .int) 4 0 0 D T [.ref o] [(o, .inr (8, [.int w0, .ref g1, .ref g2, .ref g3, .ref g4, .int (nI tp), .int w6, .int w7, .int w8, .int w9, .int w10, .int w11, .int w12, .int w13, .int w14, .ref g15, .int w16, .ref g17, .int w18, .int w19, .ref g20, .int w21, .ref g22, .ref g23, .ref g24, .int w25, .int w26, .int w27, .ref g28, .ref g29, .int w30, .ref g31, .ref g32, .ref g33])), (g1, .inl (T 0, 282, .inl fa)), (g15, .inl (T 0, 10, .inl fh)), (g17, .inl (T 0, 94, .inl fk)), (g23, .inl (T 1, 3001, .inr (.inl fs))), (g24, .inl (T 0, 8192, .inl fc))] (q_m_soonest_f T n o w0 g1 g2 g3 g4 tp w6 w7 w8 w9 w10 w11 w12 w13 w14 g15 w16 g17 w18 w19 g20 w21 g22 g23 g24 w25 w26 w27 g28 g29 w30 g31 g32 g33 fa fh fk fs fc) := by
  refine Ct.of (cc := cX8_soonest) (maxL := 6) (ret := (some .int)) (by decide) (Nat.le_of_ble_eq_true rfl) ?_
  intro p e s m args below meth c A ls hC hnm V hl
  obtain ⟨hx, hb, hr, hml, hown, hts, hlocks⟩ := id hC
  generalize hH : s.heap = H at V ⊢
  clear hH
  have hl : lv_has ls 6 [(0, .ref o)] := hl
  generalize hlo : ([] : List Loc) = locs at V ⊢
  clear hlo
  have ms0 := ms_rf h_a
  have hn10 := h_a.1
  refine lv_aload_n hx hb dX8_soonest_0 rfl (lv_at hl 0 rfl) ?_
  refine lv_iconst (v := (nI 0)) hx hb dX8_soonest_1 (by decide +kernel) ?_
  refine g_put hC V (ci := 8) uwX8 tyX8 tyX8_ok nmX8 0 rfl rfl 0 (by decide) w_912 rfl rfl rfl rfl (Nat.le_of_ble_eq_true rfl) (ws' := [(o, .inr (8, [.int (nI 0), .ref g1, .ref g2, .ref g3, .ref g4, .int (nI tp), .int w6, .int w7, .int w8, .int w9, .int w10, .int w11, .int w12, .int w13, .int w14, .ref g15, .int w16, .ref g17, .int w18, .int w19, .ref g20, .int w21, .ref g22, .ref g23, .ref g24, .int w25, .int w26, .int w27, .ref g28, .ref g29, .int w30, .ref g31, .ref g32, .ref g33])), (g1, .inl (T 0, 282, .inl fa)), (g15, .inl (T 0, 10, .inl fh)), (g17, .inl (T 0, 94, .inl fk)), (g23, .inl (T 1, 3001, .inr (.inl fs))), (g24, .inl (T 0, 8192, .inl fc))]) rfl dX8_soonest_2 (fun H locs V => ?_)
  refine lv_aload_n hx hb dX8_soonest_5 rfl (lv_at hl 0 rfl) ?_
  refine g_get hC V (ci := 8) uwX8 0 rfl rfl 1 (by decide) w_913 rfl rfl dX8_soonest_6 ?_
  refine lv_iconst (v := (nI 0)) hx hb dX8_soonest_9 (by decide +kernel) ?_
  refine g_iald hC V 1 rfl (vp_in_nI (by decide) (by decide)) (v := (nI n)) (by rw [nI_clamp (by decide)]; first | rfl | exact h_a.2.1 | exact hf66.1.2.1 | exact hf134.1.2.1 | exact hf156.1.2.1) dX8_soonest_10 ?_
  refine lv_iconst (v := (nI 3)) hx hb dX8_soonest_11 (by decide +kernel) ?_
  refine lv_icmp_le (tgt := 18) hx hb dX8_soonest_12 (by decide) (fun c_1 => ?_) (fun c_1 => ?_)
  · skip
    have c_1 := b_le (by omega) (by omega) c_1
    refine lv_aload_n hx hb dX8_soonest_18 rfl (lv_at hl 0 rfl) ?_
    refine g_callVU (nA := 0) hC V hl.1 (m_doneMany_f l D T n o (nI 0) g1 g2 g3 g4 tp w6 w7 w8 w9 w10 w11 w12 w13 w14 g15 w16 g17 w18 w19 g20 w21 g22 g23 g24 w25 w26 w27 g28 g29 w30 g31 g32 g33 fa h_a) w_1158 w_1160 w_s56 w_9 w_1161 (by decide +kernel) rfl ⟨(Nat.le_of_ble_eq_true rfl), (Nat.le_of_ble_eq_true rfl)⟩ 0 (ci := 8) rfl rfl [0, 1] rfl rfl (Nat.le_of_ble_eq_true rfl) dX8_soonest_19 ⟨(Nat.le_of_ble_eq_true rfl), (Nat.le_of_ble_eq_true rfl)⟩ rfl (fun r w1 H locs hQ V => ?_)
    obtain ⟨z_2, rfl, rfl, f_3⟩ := hQ
    have V : gW D T A s [(o, .inr (8, [.int (nI 0), .ref g1, .ref g2, .ref g3, .ref g4, .int (nI tp), .int w6, .int w7, .int w8, .int w9, .int w10, .int w11, .int w12, .int w13, .int w14, .ref g15, .int w16, .ref g17, .int w18, .int w19, .ref g20, .int w21, .ref g22, .ref g23, .ref g24, .int w25, .int w26, .int w27, .ref g28, .ref g29, .int w30, .ref g31, .ref g32, .ref g33])), (g1, .inl (T 0, 282, .inl fa)), (g15, .inl (T 0, 10, .inl fh)), (g17, .inl (T 0, 94, .inl fk)), (g23, .inl (T 1, 3001, .inr (.inl fs))), (g24, .inl (T 0, 8192, .inl fc))] H locs := V _ [0, 0] rfl rfl rfl (by decide +kernel) rfl
    show W p l e _ s m args below meth c H locs _ _ _ (F0 m 22 ls [.int z_2])
    refine lv_aload_n hx hb dX8_soonest_22 rfl (lv_at hl 0 rfl) ?_
    refine g_get hC V (ci := 8) uwX8 0 rfl rfl 1 (by decide) w_913 rfl rfl dX8_soonest_23 ?_
    refine lv_iconst (v := (nI 0)) hx hb dX8_soonest_26 (by decide +kernel) ?_
    refine g_iald hC V 1 rfl (vp_in_nI (by decide) (by decide)) (v := (nI n)) (by rw [nI_clamp (by decide)]; first | rfl | exact h_a.2.1 | exact hf66.1.2.1 | exact hf134.1.2.1 | exact hf156.1.2.1) dX8_soonest_27 ?_
    refine lv_icmp_ne (tgt := 33) hx hb dX8_soonest_28 (by decide) (fun c_4 => ?_) (fun c_4 => ?_)
    · skip
      refine lv_aload_n hx hb dX8_soonest_33 rfl (lv_at hl 0 rfl) ?_
      refine g_callVU (nA := 0) hC V hl.1 (m_keeps l D T o (nI 0) g1 g2 g3 g4 tp w6 w7 w8 w9 w10 w11 w12 w13 w14 g15 w16 g17 w18 w19 g20 w21 g22 g23 g24 w25 w26 w27 g28 g29 w30 g31 g32 g33 fa fk) w_1146 w_1148 w_s53 w_9 w_1149 (by decide +kernel) rfl ⟨(Nat.le_of_ble_eq_true rfl), (Nat.le_of_ble_eq_true rfl)⟩ 0 (ci := 8) rfl rfl [0, 1, 3] rfl rfl (Nat.le_of_ble_eq_true rfl) dX8_soonest_34 ⟨(Nat.le_of_ble_eq_true rfl), (Nat.le_of_ble_eq_true rfl)⟩ rfl (fun r w1 H locs hQ V => ?_)
      obtain ⟨gk_5, rfl, rfl, f_6⟩ := hQ
      have V : gW D T A s [(o, .inr (8, [.int (nI 0), .ref g1, .ref g2, .ref g3, .ref g4, .int (nI tp), .int w6, .int w7, .int w8, .int w9, .int w10, .int w11, .int w12, .int w13, .int w14, .ref g15, .int w16, .ref g17, .int w18, .int w19, .ref g20, .int w21, .ref g22, .ref g23, .ref g24, .int w25, .int w26, .int w27, .ref g28, .ref g29, .int w30, .ref g31, .ref g32, .ref g33])), (g1, .inl (T 0, 282, .inl fa)), (g15, .inl (T 0, 10, .inl fh)), (g17, .inl (T 0, 94, .inl gk_5)), (g23, .inl (T 1, 3001, .inr (.inl fs))), (g24, .inl (T 0, 8192, .inl fc))] H locs := V _ [0, 0, 1] rfl rfl rfl (by decide +kernel) rfl
      show W p l e _ s m args below meth c H locs _ _ _ (F0 m 37 ls [])
      refine lv_iconst (v := (nI 0)) hx hb dX8_soonest_37 (by decide +kernel) ?_
      refine lv_istore_n (lv' := [(1, .int (nI 0)), (0, .ref o)]) hx hb dX8_soonest_38 rfl hl (by decide) rfl (fun ls hl => ?_)
      have L_7 : ∀ (fu : Nat) (k39 : Nat) (fz39 : Nat → Int32), k39 ≤ 8192 → (∀ i, i < k39 → fz39 i = nI 0) → 8192 - k39 < fu → ∀ (H : Heap) (locs : List Loc) (ls : Array Slot), gW D T A s [(o, .inr (8, [.int (nI 0), .ref g1, .ref g2, .ref g3, .ref g4, .int (nI tp), .int w6, .int w7, .int w8, .int w9, .int w10, .int w11, .int w12, .int w13, .int w14, .ref g15, .int w16, .ref g17, .int w18, .int w19, .ref g20, .int w21, .ref g22, .ref g23, .ref g24, .int w25, .int w26, .int w27, .ref g28, .ref g29, .int w30, .ref g31, .ref g32, .ref g33])), (g1, .inl (T 0, 282, .inl fa)), (g15, .inl (T 0, 10, .inl fh)), (g17, .inl (T 0, 94, .inl gk_5)), (g23, .inl (T 1, 3001, .inr (.inl fs))), (g24, .inl (T 0, 8192, .inl fz39))] H locs → lv_has ls 6 [(1, .int (nI k39)), (0, .ref o)] → W p l e (rmD 4 0 0) s m args below meth c H locs 0 0 (MQ below (gQ D A (q_m_soonest_f T n o w0 g1 g2 g3 g4 tp w6 w7 w8 w9 w10 w11 w12 w13 w14 g15 w16 g17 w18 w19 g20 w21 g22 g23 g24 w25 w26 w27 g28 g29 w30 g31 g32 g33 fa fh fk fs fc)) args s 0 0 A) (F0 m 39 ls []) := by
        intro fu_39
        induction fu_39 with
        | zero => intro k39 fz39 hk39 hfz hmu; exact absurd hmu (Nat.not_lt_zero _)
        | succ fu_39 ih_39 =>
          intro k39 fz39 hk39 hfz hmu_39 H locs ls V hl
          refine lv_iload_n hx hb dX8_soonest_39 rfl (lv_at hl 0 rfl) ?_
          refine lv_sipush (v := (nI 8192)) hx hb dX8_soonest_40 (by decide +kernel) ?_
          refine lv_icmp_ge (tgt := 59) hx hb dX8_soonest_43 (by decide) (fun c_8 => ?_) (fun c_8 => ?_)
          · skip
            have c_8 := b_le (by omega) (by omega) c_8
            have hz0 : HT (VS n) cR hsR [] 0 fs fz39 := ht_0 (fun i h => hfz i (by omega))
            have h_3 : n ≤ 3 := by omega
            refine lv_aload_n hx hb dX8_soonest_59 rfl (lv_at hl 1 rfl) ?_
            refine lv_iconst (v := (nI 0)) hx hb dX8_soonest_60 (by decide +kernel) ?_
            refine g_put hC V (ci := 8) uwX8 tyX8 tyX8_ok nmX8 0 rfl rfl 25 (by decide) w_937 rfl rfl rfl rfl (Nat.le_of_ble_eq_true rfl) (ws' := [(o, .inr (8, [.int (nI 0), .ref g1, .ref g2, .ref g3, .ref g4, .int (nI tp), .int w6, .int w7, .int w8, .int w9, .int w10, .int w11, .int w12, .int w13, .int w14, .ref g15, .int w16, .ref g17, .int w18, .int w19, .ref g20, .int w21, .ref g22, .ref g23, .ref g24, .int (nI 0), .int w26, .int w27, .ref g28, .ref g29, .int w30, .ref g31, .ref g32, .ref g33])), (g1, .inl (T 0, 282, .inl fa)), (g15, .inl (T 0, 10, .inl fh)), (g17, .inl (T 0, 94, .inl gk_5)), (g23, .inl (T 1, 3001, .inr (.inl fs))), (g24, .inl (T 0, 8192, .inl fz39))]) rfl dX8_soonest_61 (fun H locs V => ?_)
            refine lv_iconst (v := (nI 0)) hx hb dX8_soonest_64 (by decide +kernel) ?_
            refine lv_istore_n (lv' := [(1, .int (nI 0)), (0, .ref o)]) hx hb dX8_soonest_65 rfl hl (by decide) rfl (fun ls hl => ?_)
            have L_9 : ∀ (fu : Nat) (k66 : Nat) (f66 : Nat → Int32), k66 ≤ n → MS n fa f66 → P0I n fa k66 f66 → n - k66 < fu → ∀ (H : Heap) (locs : List Loc) (ls : Array Slot), gW D T A s [(o, .inr (8, [.int (nI 0), .ref g1, .ref g2, .ref g3, .ref g4, .int (nI tp), .int w6, .int w7, .int w8, .int w9, .int w10, .int w11, .int w12, .int w13, .int w14, .ref g15, .int w16, .ref g17, .int w18, .int w19, .ref g20, .int w21, .ref g22, .ref g23, .ref g24, .int (nI 0), .int w26, .int w27, .ref g28, .ref g29, .int w30, .ref g31, .ref g32, .ref g33])), (g1, .inl (T 0, 282, .inl f66)), (g15, .inl (T 0, 10, .inl fh)), (g17, .inl (T 0, 94, .inl gk_5)), (g23, .inl (T 1, 3001, .inr (.inl fs))), (g24, .inl (T 0, 8192, .inl fz39))] H locs → lv_has ls 6 [(1, .int (nI k66)), (0, .ref o)] → W p l e (rmD 4 0 0) s m args below meth c H locs 0 0 (MQ below (gQ D A (q_m_soonest_f T n o w0 g1 g2 g3 g4 tp w6 w7 w8 w9 w10 w11 w12 w13 w14 g15 w16 g17 w18 w19 g20 w21 g22 g23 g24 w25 w26 w27 g28 g29 w30 g31 g32 g33 fa fh fk fs fc)) args s 0 0 A) (F0 m 66 ls []) := by
              intro fu_66
              induction fu_66 with
              | zero => intro k66 f66 hk66 hf66 hpi hmu; exact absurd hmu (Nat.not_lt_zero _)
              | succ fu_66 ih_66 =>
                intro k66 f66 hk66 hf66 hpi hmu_66 H locs ls V hl
                refine lv_iload_n hx hb dX8_soonest_66 rfl (lv_at hl 0 rfl) ?_
                refine lv_aload_n hx hb dX8_soonest_67 rfl (lv_at hl 1 rfl) ?_
                refine g_get hC V (ci := 8) uwX8 0 rfl rfl 1 (by decide) w_913 rfl rfl dX8_soonest_68 ?_
                refine lv_iconst (v := (nI 0)) hx hb dX8_soonest_71 (by decide +kernel) ?_
                refine g_iald hC V 1 rfl (vp_in_nI (by decide) (by decide)) (v := (nI n)) (by rw [nI_clamp (by decide)]; first | rfl | exact h_a.2.1 | exact hf66.1.2.1 | exact hf134.1.2.1 | exact hf156.1.2.1) dX8_soonest_72 ?_
                refine lv_icmp_ge (tgt := 120) hx hb dX8_soonest_73 (by decide) (fun c_10 => ?_) (fun c_10 => ?_)
                · skip
                  have c_10 := b_le (by omega) (by omega) c_10
                  refine lv_aload_n hx hb dX8_soonest_120 rfl (lv_at hl 1 rfl) ?_
                  refine lv_aload_n hx hb dX8_soonest_121 rfl (lv_at hl 1 rfl) ?_
                  refine g_callVU (nA := 0) hC V hl.1 (m_state_f l D T n o (nI 0) g1 g2 g3 g4 tp w6 w7 w8 w9 w10 w11 w12 w13 w14 g15 w16 g17 w18 w19 g20 w21 g22 g23 g24 (nI 0) w26 w27 g28 g29 w30 g31 g32 g33 f66 hf66.1 (by first | assumption | omega)) w_1281 w_1283 w_s69 w_9 w_1284 (by decide +kernel) rfl ⟨(Nat.le_of_ble_eq_true rfl), (Nat.le_of_ble_eq_true rfl)⟩ 0 (ci := 8) rfl rfl [0, 1] rfl rfl (Nat.le_of_ble_eq_true rfl) dX8_soonest_122 ⟨(Nat.le_of_ble_eq_true rfl), (Nat.le_of_ble_eq_true rfl)⟩ rfl (fun r w1 H locs hQ V => ?_)
                  obtain ⟨r_11, rfl, rfl, f_12⟩ := hQ
                  have V : gW D T A s [(o, .inr (8, [.int (nI 0), .ref g1, .ref g2, .ref g3, .ref g4, .int (nI tp), .int w6, .int w7, .int w8, .int w9, .int w10, .int w11, .int w12, .int w13, .int w14, .ref g15, .int w16, .ref g17, .int w18, .int w19, .ref g20, .int w21, .ref g22, .ref g23, .ref g24, .int (nI 0), .int w26, .int w27, .ref g28, .ref g29, .int w30, .ref g31, .ref g32, .ref g33])), (g1, .inl (T 0, 282, .inl f66)), (g15, .inl (T 0, 10, .inl fh)), (g17, .inl (T 0, 94, .inl gk_5)), (g23, .inl (T 1, 3001, .inr (.inl fs))), (g24, .inl (T 0, 8192, .inl fz39))] H locs := V _ [0, 0] rfl rfl rfl (by decide +kernel) rfl
                  show W p l e _ s m args below meth c H locs _ _ _ (F0 m 125 ls [.long (Int64.ofNat r_11), .ref o])
                  have hpe := pz_e hpi (show k66 = n by omega) hn10 f_12
                  refine g_callVU (nA := 1) hC V hl.1 (m_meets_f l D T r_11 n ([]) (prS n fa) o (nI 0) g1 g2 g3 g4 tp w6 w7 w8 w9 w10 w11 w12 w13 w14 g15 w16 g17 w18 w19 g20 w21 g22 g23 g24 0 w26 w27 g28 g29 w30 g31 g32 g33 fs fz39 hz0 (pr_vs h_a) hpe.2 h_3) w_1286 w_1288 w_s70 w_9 w_1289 (by decide +kernel) rfl ⟨(Nat.le_of_ble_eq_true rfl), (Nat.le_of_ble_eq_true rfl)⟩ 0 (ci := 8) rfl rfl [0, 4, 5] rfl rfl (Nat.le_of_ble_eq_true rfl) dX8_soonest_125 ⟨(Nat.le_of_ble_eq_true rfl), (Nat.le_of_ble_eq_true rfl)⟩ rfl (fun r w1 H locs hQ V => ?_)
                  obtain ⟨sm2_13, gs_14, gt_15, rfl, rfl, f_16, f_17, f_18⟩ := hQ
                  have V : gW D T A s [(o, .inr (8, [.int (nI 0), .ref g1, .ref g2, .ref g3, .ref g4, .int (nI tp), .int w6, .int w7, .int w8, .int w9, .int w10, .int w11, .int w12, .int w13, .int w14, .ref g15, .int w16, .ref g17, .int w18, .int w19, .ref g20, .int w21, .ref g22, .ref g23, .ref g24, .int (nI sm2_13), .int w26, .int w27, .ref g28, .ref g29, .int w30, .ref g31, .ref g32, .ref g33])), (g1, .inl (T 0, 282, .inl f66)), (g15, .inl (T 0, 10, .inl fh)), (g17, .inl (T 0, 94, .inl gk_5)), (g23, .inl (T 1, 3001, .inr (.inl gs_14))), (g24, .inl (T 0, 8192, .inl gt_15))] H locs := V _ [0, 3, 0] rfl rfl rfl (by decide +kernel) rfl
                  show W p l e _ s m args below meth c H locs _ _ _ (F0 m 128 ls [])
                  have hs0 := so_0 f_16
                  refine lv_iconst (v := (nI 0)) hx hb dX8_soonest_128 (by decide +kernel) ?_
                  refine lv_istore_n (lv' := [(1, .int (nI 0)), (0, .ref o)]) hx hb dX8_soonest_129 rfl hl (by decide) rfl (fun ls hl => ?_)
                  refine lv_iconst (v := (-1)) hx hb dX8_soonest_130 (by decide +kernel) ?_
                  refine lv_istore_n (lv' := [(2, .int (-1)), (1, .int (nI 0)), (0, .ref o)]) hx hb dX8_soonest_131 rfl hl (by decide) rfl (fun ls hl => ?_)
                  refine lv_iconst (v := (nI 1)) hx hb dX8_soonest_132 (by decide +kernel) ?_
                  refine lv_istore_n (lv' := [(3, .int (nI 1)), (2, .int (-1)), (1, .int (nI 0)), (0, .ref o)]) hx hb dX8_soonest_133 rfl hl (by decide) rfl (fun ls hl => ?_)
                  have L_19 : ∀ (fu : Nat) (fr_ : Nat) (x2 : Int32) (mn : Nat) (sn_ : Nat) (bv : Int32) (gx : Nat → Int32) (gy : Nat → Int64) (gz : Nat → Int32) (f134 : Nat → Int32) (vv : List (List Nat)), MS n fa f134 → SO1 n fa x2 vv mn fr_ sn_ gy gz → fr_ ≤ sn_ → sn_ ≤ 3001 → AG fa f134 → 3002 - fr_ < fu → ∀ (H : Heap) (locs : List Loc) (ls : Array Slot), gW D T A s [(o, .inr (8, [.int (nI 0), .ref g1, .ref g2, .ref g3, .ref g4, .int (nI tp), .int w6, .int w7, .int w8, .int w9, .int w10, .int w11, .int w12, .int w13, .int w14, .ref g15, .int bv, .ref g17, .int w18, .int w19, .ref g20, .int w21, .ref g22, .ref g23, .ref g24, .int (nI sn_), .int w26, .int w27, .ref g28, .ref g29, .int w30, .ref g31, .ref g32, .ref g33])), (g1, .inl (T 0, 282, .inl f134)), (g15, .inl (T 0, 10, .inl gx)), (g17, .inl (T 0, 94, .inl gk_5)), (g23, .inl (T 1, 3001, .inr (.inl gy))), (g24, .inl (T 0, 8192, .inl gz))] H locs → lv_has ls 6 [(3, .int (nI mn)), (2, .int x2), (1, .int (nI fr_)), (0, .ref o)] → W p l e (rmD 4 0 0) s m args below meth c H locs 0 0 (MQ below (gQ D A (q_m_soonest_f T n o w0 g1 g2 g3 g4 tp w6 w7 w8 w9 w10 w11 w12 w13 w14 g15 w16 g17 w18 w19 g20 w21 g22 g23 g24 w25 w26 w27 g28 g29 w30 g31 g32 g33 fa fh fk fs fc)) args s 0 0 A) (F0 m 134 ls []) := by
                    intro fu_134
                    induction fu_134 with
                    | zero => intro fr_ x2 mn sn_ bv gx gy gz f134 vv hf134 hS hfr hs1 hag hmu; exact absurd hmu (Nat.not_lt_zero _)
                    | succ fu_134 ih_134 =>
                      intro fr_ x2 mn sn_ bv gx gy gz f134 vv hf134 hS hfr hs1 hag hmu_134 H locs ls V hl
                      refine lv_iload_n hx hb dX8_soonest_134 rfl (lv_at hl 1 rfl) ?_
                      refine lv_iconst (v := (-1)) hx hb dX8_soonest_135 (by decide +kernel) ?_
                      refine lv_icmp_ne (tgt := 217) hx hb dX8_soonest_136 (by decide) (fun c_20 => ?_) (fun c_20 => ?_)
                      · skip
                        refine lv_aload_n hx hb dX8_soonest_217 rfl (lv_at hl 3 rfl) ?_
                        refine g_callVU (nA := 0) hC V hl.1 (m_isAgain l D T o (nI 0) g1 g2 g3 g4 tp w6 w7 w8 w9 w10 w11 w12 w13 w14 g15 bv g17 w18 w19 g20 w21 g22 g23 g24 (nI sn_) w26 w27 g28 g29 w30 g31 g32 g33 f134 gk_5) w_1162 w_1164 w_s57 w_9 w_1165 (by decide +kernel) rfl ⟨(Nat.le_of_ble_eq_true rfl), (Nat.le_of_ble_eq_true rfl)⟩ 0 (ci := 8) rfl rfl [0, 1, 3] rfl rfl (Nat.le_of_ble_eq_true rfl) dX8_soonest_218 ⟨(Nat.le_of_ble_eq_true rfl), (Nat.le_of_ble_eq_true rfl)⟩ rfl (fun r w1 H locs hQ V => ?_)
                        obtain ⟨ga_21, rfl, rfl, f_22, f_23⟩ := hQ
                        have V : gW D T A s [(o, .inr (8, [.int (nI 0), .ref g1, .ref g2, .ref g3, .ref g4, .int (nI tp), .int w6, .int w7, .int w8, .int w9, .int w10, .int w11, .int w12, .int w13, .int w14, .ref g15, .int bv, .ref g17, .int w18, .int w19, .ref g20, .int w21, .ref g22, .ref g23, .ref g24, .int (nI sn_), .int w26, .int w27, .ref g28, .ref g29, .int w30, .ref g31, .ref g32, .ref g33])), (g1, .inl (T 0, 282, .inl ga_21)), (g15, .inl (T 0, 10, .inl gx)), (g17, .inl (T 0, 94, .inl gk_5)), (g23, .inl (T 1, 3001, .inr (.inl gy))), (g24, .inl (T 0, 8192, .inl gz))] H locs := V _ [0, 0, 1] rfl rfl rfl (by decide +kernel) rfl
                        show W p l e _ s m args below meth c H locs _ _ _ (F0 m 221 ls [])
                        have ega_21 : ga_21 = fa := funext (fun j => if h : j < 94 then (f_22 j h).trans (f_6 j h) else (f_23 j (by omega)).trans ((by assumption : MS n fa _).2 j (by omega)))
                        rw [ega_21] at V
                        refine lv_iload_n hx hb dX8_soonest_221 rfl (lv_at hl 1 rfl) ?_
                        exact g_iret (Qr := (q_m_soonest_f T n o w0 g1 g2 g3 g4 tp w6 w7 w8 w9 w10 w11 w12 w13 w14 g15 w16 g17 w18 w19 g20 w21 g22 g23 g24 w25 w26 w27 g28 g29 w30 g31 g32 g33 fa fh fk fs fc)) hC V ⟨(Nat.le_of_ble_eq_true rfl), (Nat.le_of_ble_eq_true rfl)⟩ ⟨x2, (nI sn_), bv, gx, gk_5, gy, gz, rfl, rfl, (soo_R h_3 (fun q => c_4 (f_3.trans q)) (hS.2 c_20))⟩ dX8_soonest_222
                      · skip
                        refine lv_iload_n hx hb dX8_soonest_139 rfl (lv_at hl 2 rfl) ?_
                        refine lv_aload_n hx hb dX8_soonest_140 rfl (lv_at hl 3 rfl) ?_
                        refine g_get hC V (ci := 8) uwX8 0 rfl rfl 25 (by decide) w_937 rfl rfl dX8_soonest_141 ?_
                        refine lv_icmp_ge (tgt := 217) hx hb dX8_soonest_144 (by decide) (fun c_24 => ?_) (fun c_24 => ?_)
                        · skip
                          have c_24 := b_le (by omega) (by omega) c_24
                          refine lv_aload_n hx hb dX8_soonest_217 rfl (lv_at hl 3 rfl) ?_
                          refine g_callVU (nA := 0) hC V hl.1 (m_isAgain l D T o (nI 0) g1 g2 g3 g4 tp w6 w7 w8 w9 w10 w11 w12 w13 w14 g15 bv g17 w18 w19 g20 w21 g22 g23 g24 (nI sn_) w26 w27 g28 g29 w30 g31 g32 g33 f134 gk_5) w_1162 w_1164 w_s57 w_9 w_1165 (by decide +kernel) rfl ⟨(Nat.le_of_ble_eq_true rfl), (Nat.le_of_ble_eq_true rfl)⟩ 0 (ci := 8) rfl rfl [0, 1, 3] rfl rfl (Nat.le_of_ble_eq_true rfl) dX8_soonest_218 ⟨(Nat.le_of_ble_eq_true rfl), (Nat.le_of_ble_eq_true rfl)⟩ rfl (fun r w1 H locs hQ V => ?_)
                          obtain ⟨ga_25, rfl, rfl, f_26, f_27⟩ := hQ
                          have V : gW D T A s [(o, .inr (8, [.int (nI 0), .ref g1, .ref g2, .ref g3, .ref g4, .int (nI tp), .int w6, .int w7, .int w8, .int w9, .int w10, .int w11, .int w12, .int w13, .int w14, .ref g15, .int bv, .ref g17, .int w18, .int w19, .ref g20, .int w21, .ref g22, .ref g23, .ref g24, .int (nI sn_), .int w26, .int w27, .ref g28, .ref g29, .int w30, .ref g31, .ref g32, .ref g33])), (g1, .inl (T 0, 282, .inl ga_25)), (g15, .inl (T 0, 10, .inl gx)), (g17, .inl (T 0, 94, .inl gk_5)), (g23, .inl (T 1, 3001, .inr (.inl gy))), (g24, .inl (T 0, 8192, .inl gz))] H locs := V _ [0, 0, 1] rfl rfl rfl (by decide +kernel) rfl
                          show W p l e _ s m args below meth c H locs _ _ _ (F0 m 221 ls [])
                          have ega_25 : ga_25 = fa := funext (fun j => if h : j < 94 then (f_26 j h).trans (f_6 j h) else (f_27 j (by omega)).trans ((by assumption : MS n fa _).2 j (by omega)))
                          rw [ega_25] at V
                          refine lv_iload_n hx hb dX8_soonest_221 rfl (lv_at hl 1 rfl) ?_
                          exact g_iret (Qr := (q_m_soonest_f T n o w0 g1 g2 g3 g4 tp w6 w7 w8 w9 w10 w11 w12 w13 w14 g15 w16 g17 w18 w19 g20 w21 g22 g23 g24 w25 w26 w27 g28 g29 w30 g31 g32 g33 fa fh fk fs fc)) hC V ⟨(Nat.le_of_ble_eq_true rfl), (Nat.le_of_ble_eq_true rfl)⟩ ⟨x2, (nI sn_), bv, gx, gk_5, gy, gz, rfl, rfl, (soo_R h_3 (fun q => c_4 (f_3.trans q)) (so_e hS c_20 (by omega)))⟩ dX8_soonest_222
                        · skip
                          have c_24 := b_nle (by omega) (by omega) c_24
                          obtain ⟨hht, hmn, hmn1, hsn3, hZ⟩ := so_l hS c_20 (by omega)
                          have hs20 : SO2 n fa x2 vv fr_ fr_ sn_ gy gz := sz2_0 (mn := mn) hht c_20
                          refine lv_aload_n hx hb dX8_soonest_147 rfl (lv_at hl 3 rfl) ?_
                          refine g_get hC V (ci := 8) uwX8 0 rfl rfl 25 (by decide) w_937 rfl rfl dX8_soonest_148 ?_
                          refine lv_istore (lv' := [(4, .int (nI sn_)), (3, .int (nI mn)), (2, .int x2), (1, .int (nI fr_)), (0, .ref o)]) hx hb dX8_soonest_151 hl (by decide) rfl (fun ls hl => ?_)
                          refine lv_iload_n hx hb dX8_soonest_153 rfl (lv_at hl 3 rfl) ?_
                          refine lv_istore (lv' := [(5, .int (nI fr_)), (4, .int (nI sn_)), (3, .int (nI mn)), (2, .int x2), (1, .int (nI fr_)), (0, .ref o)]) hx hb dX8_soonest_154 hl (by decide) rfl (fun ls hl => ?_)
                          have L_28 : ∀ (fu : Nat) (k156 : Nat) (x3 : Int32) (so_ : Nat) (bw : Int32) (gx2 : Nat → Int32) (gy2 : Nat → Int64) (gz2 : Nat → Int32) (f156 : Nat → Int32), k156 ≤ sn_ → MS n fa f156 → SO2 n fa x3 vv fr_ k156 so_ gy2 gz2 → fr_ ≤ k156 → sn_ ≤ so_ → so_ ≤ 3001 → AG fa f156 → sn_ - k156 < fu → ∀ (H : Heap) (locs : List Loc) (ls : Array Slot), gW D T A s [(o, .inr (8, [.int (nI 0), .ref g1, .ref g2, .ref g3, .ref g4, .int (nI tp), .int w6, .int w7, .int w8, .int w9, .int w10, .int w11, .int w12, .int w13, .int w14, .ref g15, .int bw, .ref g17, .int w18, .int w19, .ref g20, .int w21, .ref g22, .ref g23, .ref g24, .int (nI so_), .int w26, .int w27, .ref g28, .ref g29, .int w30, .ref g31, .ref g32, .ref g33])), (g1, .inl (T 0, 282, .inl f156)), (g15, .inl (T 0, 10, .inl gx2)), (g17, .inl (T 0, 94, .inl gk_5)), (g23, .inl (T 1, 3001, .inr (.inl gy2))), (g24, .inl (T 0, 8192, .inl gz2))] H locs → lv_has ls 6 [(5, .int (nI k156)), (4, .int (nI sn_)), (3, .int (nI mn)), (2, .int x3), (1, .int (nI fr_)), (0, .ref o)] → W p l e (rmD 4 0 0) s m args below meth c H locs 0 0 (MQ below (gQ D A (q_m_soonest_f T n o w0 g1 g2 g3 g4 tp w6 w7 w8 w9 w10 w11 w12 w13 w14 g15 w16 g17 w18 w19 g20 w21 g22 g23 g24 w25 w26 w27 g28 g29 w30 g31 g32 g33 fa fh fk fs fc)) args s 0 0 A) (F0 m 156 ls []) := by
                            intro fu_156
                            induction fu_156 with
                            | zero => intro k156 x3 so_ bw gx2 gy2 gz2 f156 hk156 hf156 hS2 hfk hso hso1 hag2 hmu; exact absurd hmu (Nat.not_lt_zero _)
                            | succ fu_156 ih_156 =>
                              intro k156 x3 so_ bw gx2 gy2 gz2 f156 hk156 hf156 hS2 hfk hso hso1 hag2 hmu_156 H locs ls V hl
                              refine lv_iload hx hb dX8_soonest_156 (lv_at hl 0 rfl) ?_
                              refine lv_iload hx hb dX8_soonest_158 (lv_at hl 1 rfl) ?_
                              refine lv_icmp_ge (tgt := 190) hx hb dX8_soonest_160 (by decide) (fun c_29 => ?_) (fun c_29 => ?_)
                              · skip
                                have c_29 := b_le (by omega) (by omega) c_29
                                refine lv_iload_n hx hb dX8_soonest_190 rfl (lv_at hl 3 rfl) ?_
                                refine lv_iconst (v := (-1)) hx hb dX8_soonest_191 (by decide +kernel) ?_
                                refine lv_icmp_ne (tgt := 208) hx hb dX8_soonest_192 (by decide) (fun c_30 => ?_) (fun c_30 => ?_)
                                · skip
                                  refine lv_iload hx hb dX8_soonest_208 (lv_at hl 1 rfl) ?_
                                  refine lv_istore_n (lv' := [(1, .int (nI sn_)), (5, .int (nI k156)), (4, .int (nI sn_)), (3, .int (nI mn)), (2, .int x3), (0, .ref o)]) hx hb dX8_soonest_210 rfl hl (by decide) rfl (fun ls hl => ?_)
                                  refine lv_iinc (v := (nI (mn + 1))) (lv' := [(3, .int (nI (mn + 1))), (1, .int (nI sn_)), (5, .int (nI k156)), (4, .int (nI sn_)), (2, .int x3), (0, .ref o)]) hx hb dX8_soonest_211 hl (k := 3) rfl (nI_1 _) (by decide) rfl (fun ls hl => ?_)
                                  refine lv_goto (tgt := 134) hx hb dX8_soonest_214 (by decide) ?_
                                  exact ih_134 sn_ x3 (mn + 1) so_ bw gx2 gy2 gz2 f156 (inA vv ((vv.drop fr_).flatMap (scR n fa))) (by assumption) (sz1_t hS2 c_30) (by omega) (by omega) hag2 (by omega) _ _ _ V (lv_sub hl [0, 4, 1, 5] rfl)
                                · skip
                                  refine lv_aload_n hx hb dX8_soonest_195 rfl (lv_at hl 5 rfl) ?_
                                  refine g_get hC V (ci := 8) uwX8 0 rfl rfl 25 (by decide) w_937 rfl rfl dX8_soonest_196 ?_
                                  refine lv_sipush (v := (nI 3000)) hx hb dX8_soonest_199 (by decide +kernel) ?_
                                  refine lv_icmp_le (tgt := 208) hx hb dX8_soonest_202 (by decide) (fun c_31 => ?_) (fun c_31 => ?_)
                                  · skip
                                    have c_31 := b_le (by omega) (by omega) c_31
                                    refine lv_iload hx hb dX8_soonest_208 (lv_at hl 1 rfl) ?_
                                    refine lv_istore_n (lv' := [(1, .int (nI sn_)), (5, .int (nI k156)), (4, .int (nI sn_)), (3, .int (nI mn)), (2, .int x3), (0, .ref o)]) hx hb dX8_soonest_210 rfl hl (by decide) rfl (fun ls hl => ?_)
                                    refine lv_iinc (v := (nI (mn + 1))) (lv' := [(3, .int (nI (mn + 1))), (1, .int (nI sn_)), (5, .int (nI k156)), (4, .int (nI sn_)), (2, .int x3), (0, .ref o)]) hx hb dX8_soonest_211 hl (k := 3) rfl (nI_1 _) (by decide) rfl (fun ls hl => ?_)
                                    refine lv_goto (tgt := 134) hx hb dX8_soonest_214 (by decide) ?_
                                    exact ih_134 sn_ x3 (mn + 1) so_ bw gx2 gy2 gz2 f156 (inA vv ((vv.drop fr_).flatMap (scR n fa))) (by assumption) (sz1_s hht hZ hmn hmn1 hsn3 hS2 c_30 (by omega) (by omega)) (by omega) (by omega) hag2 (by omega) _ _ _ V (lv_sub hl [0, 4, 1, 5] rfl)
                                  · skip
                                    have c_31 := b_nle (by omega) (by omega) c_31
                                    refine lv_bipush (v := (-4)) hx hb dX8_soonest_205 (by decide +kernel) ?_
                                    refine lv_istore_n (lv' := [(2, .int (-4)), (5, .int (nI k156)), (4, .int (nI sn_)), (3, .int (nI mn)), (1, .int (nI fr_)), (0, .ref o)]) hx hb dX8_soonest_207 rfl hl (by decide) rfl (fun ls hl => ?_)
                                    refine lv_iload hx hb dX8_soonest_208 (lv_at hl 2 rfl) ?_
                                    refine lv_istore_n (lv' := [(1, .int (nI sn_)), (2, .int (-4)), (5, .int (nI k156)), (4, .int (nI sn_)), (3, .int (nI mn)), (0, .ref o)]) hx hb dX8_soonest_210 rfl hl (by decide) rfl (fun ls hl => ?_)
                                    refine lv_iinc (v := (nI (mn + 1))) (lv' := [(3, .int (nI (mn + 1))), (1, .int (nI sn_)), (2, .int (-4)), (5, .int (nI k156)), (4, .int (nI sn_)), (0, .ref o)]) hx hb dX8_soonest_211 hl (k := 4) rfl (nI_1 _) (by decide) rfl (fun ls hl => ?_)
                                    refine lv_goto (tgt := 134) hx hb dX8_soonest_214 (by decide) ?_
                                    exact ih_134 sn_ (-4) (mn + 1) so_ bw gx2 gy2 gz2 f156 (inA vv ((vv.drop fr_).flatMap (scR n fa))) (by assumption) (sz1_4 hht hZ (by omega) hS2 c_30 (by omega) (by omega)) (by omega) (by omega) hag2 (by omega) _ _ _ V (lv_sub hl [0, 2, 1, 5] rfl)
                              · skip
                                have c_29 := b_nle (by omega) (by omega) c_29
                                refine lv_iload_n hx hb dX8_soonest_163 rfl (lv_at hl 3 rfl) ?_
                                refine lv_iconst (v := (-1)) hx hb dX8_soonest_164 (by decide +kernel) ?_
                                refine lv_icmp_ne (tgt := 190) hx hb dX8_soonest_165 (by decide) (fun c_32 => ?_) (fun c_32 => ?_)
                                · skip
                                  refine lv_iload_n hx hb dX8_soonest_190 rfl (lv_at hl 3 rfl) ?_
                                  refine lv_iconst (v := (-1)) hx hb dX8_soonest_191 (by decide +kernel) ?_
                                  refine lv_icmp_ne (tgt := 208) hx hb dX8_soonest_192 (by decide) (fun c_33 => ?_) (fun c_33 => ?_)
                                  · skip
                                    refine lv_iload hx hb dX8_soonest_208 (lv_at hl 1 rfl) ?_
                                    refine lv_istore_n (lv' := [(1, .int (nI sn_)), (5, .int (nI k156)), (4, .int (nI sn_)), (3, .int (nI mn)), (2, .int x3), (0, .ref o)]) hx hb dX8_soonest_210 rfl hl (by decide) rfl (fun ls hl => ?_)
                                    refine lv_iinc (v := (nI (mn + 1))) (lv' := [(3, .int (nI (mn + 1))), (1, .int (nI sn_)), (5, .int (nI k156)), (4, .int (nI sn_)), (2, .int x3), (0, .ref o)]) hx hb dX8_soonest_211 hl (k := 3) rfl (nI_1 _) (by decide) rfl (fun ls hl => ?_)
                                    refine lv_goto (tgt := 134) hx hb dX8_soonest_214 (by decide) ?_
                                    exact ih_134 sn_ x3 (mn + 1) so_ bw gx2 gy2 gz2 f156 (inA vv ((vv.drop fr_).flatMap (scR n fa))) (by assumption) (sz1_t hS2 c_33) (by omega) (by omega) hag2 (by omega) _ _ _ V (lv_sub hl [0, 4, 1, 5] rfl)
                                  · skip
                                    exact absurd c_33 c_32
                                · skip
                                  have hh3 := (hS2.1 c_32).1
                                  refine lv_aload_n hx hb dX8_soonest_168 rfl (lv_at hl 5 rfl) ?_
                                  refine lv_aload_n hx hb dX8_soonest_169 rfl (lv_at hl 5 rfl) ?_
                                  refine g_get hC V (ci := 8) uwX8 0 rfl rfl 23 (by decide) w_935 rfl rfl dX8_soonest_170 ?_
                                  refine lv_iload hx hb dX8_soonest_173 (lv_at hl 0 rfl) ?_
                                  refine g_lald hC V 4 rfl (vp_in_nI (by omega) (by omega)) (v := (gy2 k156)) (congrArg _ (nI_clamp (by omega))) dX8_soonest_175 ?_
                                  refine g_vl (y := Int64.ofNat (cdR (vv.getD k156 []))) ((hv_k hht hh3 (by omega)).trans rfl) ?_
                                  refine g_callVU (nA := 1) hC V hl.1 (m_doesAll_f l D T (cdR (vv.getD k156 [])) (vv.getD k156 []) fa (inA vv ((lvT vv fr_ k156).flatMap (scR n fa))) n o (nI 0) g1 g2 g3 g4 tp w6 w7 w8 w9 w10 w11 w12 w13 w14 g15 bw g17 w18 w19 g20 w21 g22 g23 g24 so_ w26 w27 g28 g29 w30 g31 g32 g33 f156 gx2 gy2 gz2 hf156.1 h_3 hh3 rfl ((ht_r hht (by omega)).2.1) h_a hag2) w_1291 w_1293 w_s71 w_9 w_1294 (by decide +kernel) rfl ⟨(Nat.le_of_ble_eq_true rfl), (Nat.le_of_ble_eq_true rfl)⟩ 0 (ci := 8) rfl rfl [0, 1, 2, 4, 5] rfl rfl (Nat.le_of_ble_eq_true rfl) dX8_soonest_176 ⟨(Nat.le_of_ble_eq_true rfl), (Nat.le_of_ble_eq_true rfl)⟩ rfl (fun r w1 H locs hQ V => ?_)
                                  rcases hQ with ⟨bm_34, ga_35, gh_36, sm2_37, gs_38, gt_39, rfl, rfl, f_40, f_41, f_42, f_43, f_44⟩ | ⟨bm_45, ga_46, gh_47, sm2_48, gs_49, gt_50, rfl, rfl, f_51, f_52, f_53, f_54, f_55, f_56⟩
                                  · have V : gW D T A s [(o, .inr (8, [.int (nI 0), .ref g1, .ref g2, .ref g3, .ref g4, .int (nI tp), .int w6, .int w7, .int w8, .int w9, .int w10, .int w11, .int w12, .int w13, .int w14, .ref g15, .int bm_34, .ref g17, .int w18, .int w19, .ref g20, .int w21, .ref g22, .ref g23, .ref g24, .int (nI sm2_37), .int w26, .int w27, .ref g28, .ref g29, .int w30, .ref g31, .ref g32, .ref g33])), (g1, .inl (T 0, 282, .inl ga_35)), (g15, .inl (T 0, 10, .inl gh_36)), (g17, .inl (T 0, 94, .inl gk_5)), (g23, .inl (T 1, 3001, .inr (.inl gs_38))), (g24, .inl (T 0, 8192, .inl gt_39))] H locs := V _ [0, 0, 0, 1, 0] rfl rfl rfl (by decide +kernel) rfl
                                    show W p l e _ s m args below meth c H locs _ _ _ (F0 m 179 ls [.int (nI 1)])
                                    have hga_35 : MS n fa ga_35 := ms_tr (by assumption) f_40
                                    refine lv_if_eq (tgt := 184) hx hb dX8_soonest_179 (by decide) (fun c => absurd (show (nI 1) = 0 from c) (by decide +kernel)) (fun _ => ?_)
                                    refine lv_iload_n hx hb dX8_soonest_182 rfl (lv_at hl 2 rfl) ?_
                                    refine lv_istore_n (lv' := [(2, .int (nI mn)), (5, .int (nI k156)), (4, .int (nI sn_)), (3, .int (nI mn)), (1, .int (nI fr_)), (0, .ref o)]) hx hb dX8_soonest_183 rfl hl (by decide) rfl (fun ls hl => ?_)
                                    refine lv_iinc (v := (nI (k156 + 1))) (lv' := [(5, .int (nI (k156 + 1))), (2, .int (nI mn)), (4, .int (nI sn_)), (3, .int (nI mn)), (1, .int (nI fr_)), (0, .ref o)]) hx hb dX8_soonest_184 hl (k := 1) rfl (nI_1 _) (by decide) rfl (fun ls hl => ?_)
                                    refine lv_goto (tgt := 156) hx hb dX8_soonest_187 (by decide) ?_
                                    exact ih_156 (k156 + 1) (nI mn) sm2_37 bm_34 gh_36 gs_38 gt_39 ga_35 (by omega) (by assumption) (sz2_y hht hZ (by omega) hfk (by omega) f_42) (by omega) (by omega) (by omega) f_41 (by omega) _ _ _ V (lv_sub hl [0, 2, 3, 1, 4, 5] rfl)
                                  · have V : gW D T A s [(o, .inr (8, [.int (nI 0), .ref g1, .ref g2, .ref g3, .ref g4, .int (nI tp), .int w6, .int w7, .int w8, .int w9, .int w10, .int w11, .int w12, .int w13, .int w14, .ref g15, .int bm_45, .ref g17, .int w18, .int w19, .ref g20, .int w21, .ref g22, .ref g23, .ref g24, .int (nI sm2_48), .int w26, .int w27, .ref g28, .ref g29, .int w30, .ref g31, .ref g32, .ref g33])), (g1, .inl (T 0, 282, .inl ga_46)), (g15, .inl (T 0, 10, .inl gh_47)), (g17, .inl (T 0, 94, .inl gk_5)), (g23, .inl (T 1, 3001, .inr (.inl gs_49))), (g24, .inl (T 0, 8192, .inl gt_50))] H locs := V _ [0, 0, 0, 1, 0] rfl rfl rfl (by decide +kernel) rfl
                                    show W p l e _ s m args below meth c H locs _ _ _ (F0 m 179 ls [.int (nI 0)])
                                    have hga_46 : MS n fa ga_46 := ms_tr (by assumption) f_51
                                    refine lv_if_eq (tgt := 184) hx hb dX8_soonest_179 (by decide) (fun _ => ?_) (fun c => absurd (show (nI 0) = 0 by decide +kernel) c)
                                    refine lv_iinc (v := (nI (k156 + 1))) (lv' := [(5, .int (nI (k156 + 1))), (4, .int (nI sn_)), (3, .int (nI mn)), (2, .int x3), (1, .int (nI fr_)), (0, .ref o)]) hx hb dX8_soonest_184 hl (k := 0) rfl (nI_1 _) (by decide) rfl (fun ls hl => ?_)
                                    refine lv_goto (tgt := 156) hx hb dX8_soonest_187 (by decide) ?_
                                    exact ih_156 (k156 + 1) x3 sm2_48 bm_45 gh_47 gs_49 gt_50 ga_46 (by omega) (by assumption) (sz2_n hht hS2 c_32 hfk (by omega) f_53 f_56) (by omega) (by omega) (by omega) f_52 (by omega) _ _ _ V (lv_sub hl [0, 1, 2, 3, 4, 5] rfl)
                          exact L_28 _ fr_ x2 sn_ bv gx gy gz f134 (by omega) (by assumption) hs20 (Nat.le_refl _) (Nat.le_refl _) (by omega) hag (Nat.lt_succ_self _) _ _ _ V (lv_sub hl [0, 1, 2, 3, 4, 5] rfl)
                  exact L_19 _ 0 (-1) 1 sm2_13 w16 fh gs_14 gt_15 f66 ([prS n fa]) (by assumption) hs0.2 (Nat.zero_le _) (by omega) hpe.1 (Nat.lt_succ_self _) _ _ _ V (lv_sub hl [0, 1, 2, 3] rfl)
                · skip
                  have c_10 := b_nle (by omega) (by omega) c_10
                  refine lv_aload_n hx hb dX8_soonest_76 rfl (lv_at hl 1 rfl) ?_
                  refine g_get hC V (ci := 8) uwX8 0 rfl rfl 1 (by decide) w_913 rfl rfl dX8_soonest_77 ?_
                  refine lv_bipush (v := (nI 64)) hx hb dX8_soonest_80 (by decide +kernel) ?_
                  refine lv_iload_n hx hb dX8_soonest_82 rfl (lv_at hl 0 rfl) ?_
                  refine lv_iadd hx hb dX8_soonest_83 ?_
                  refine g_vi (y := (nI (64 + k66))) (nI_add _ _) ?_
                  refine lv_aload_n hx hb dX8_soonest_84 rfl (lv_at hl 1 rfl) ?_
                  refine lv_iload_n hx hb dX8_soonest_85 rfl (lv_at hl 0 rfl) ?_
                  refine g_callVU (nA := 1) hC V hl.1 (m_isDone l D T o k66 (nI 0) g1 g2 g3 g4 tp w6 w7 w8 w9 w10 w11 w12 w13 w14 g15 w16 g17 w18 w19 g20 w21 g22 g23 g24 (nI 0) w26 w27 g28 g29 w30 g31 g32 g33 f66 (by first | assumption | omega)) w_1088 w_1090 w_s47 w_9 w_1091 (by decide +kernel) rfl ⟨(Nat.le_of_ble_eq_true rfl), (Nat.le_of_ble_eq_true rfl)⟩ 0 (ci := 8) rfl rfl [0, 1] rfl rfl (Nat.le_of_ble_eq_true rfl) dX8_soonest_86 ⟨(Nat.le_of_ble_eq_true rfl), (Nat.le_of_ble_eq_true rfl)⟩ rfl (fun r w1 H locs hQ V => ?_)
                  rcases hQ with ⟨rfl, rfl, f_57⟩ | ⟨rfl, rfl, f_58⟩
                  · have V : gW D T A s [(o, .inr (8, [.int (nI 0), .ref g1, .ref g2, .ref g3, .ref g4, .int (nI tp), .int w6, .int w7, .int w8, .int w9, .int w10, .int w11, .int w12, .int w13, .int w14, .ref g15, .int w16, .ref g17, .int w18, .int w19, .ref g20, .int w21, .ref g22, .ref g23, .ref g24, .int (nI 0), .int w26, .int w27, .ref g28, .ref g29, .int w30, .ref g31, .ref g32, .ref g33])), (g1, .inl (T 0, 282, .inl f66)), (g15, .inl (T 0, 10, .inl fh)), (g17, .inl (T 0, 94, .inl gk_5)), (g23, .inl (T 1, 3001, .inr (.inl fs))), (g24, .inl (T 0, 8192, .inl fz39))] H locs := V _ [0, 0] rfl rfl rfl (by decide +kernel) rfl
                    show W p l e _ s m args below meth c H locs _ _ _ (F0 m 89 ls [.int (nI 1), .int (nI (64 + k66)), .ref g1])
                    refine lv_if_eq (tgt := 104) hx hb dX8_soonest_89 (by decide) (fun c => absurd (show (nI 1) = 0 from c) (by decide +kernel)) (fun _ => ?_)
                    refine lv_aload_n hx hb dX8_soonest_92 rfl (lv_at hl 1 rfl) ?_
                    refine g_get hC V (ci := 8) uwX8 0 rfl rfl 1 (by decide) w_913 rfl rfl dX8_soonest_93 ?_
                    refine lv_bipush (v := (nI 54)) hx hb dX8_soonest_96 (by decide +kernel) ?_
                    refine lv_iload_n hx hb dX8_soonest_98 rfl (lv_at hl 0 rfl) ?_
                    refine lv_iadd hx hb dX8_soonest_99 ?_
                    refine g_vi (y := (nI (54 + k66))) (nI_add _ _) ?_
                    obtain ⟨j_59, hj_59, ej_59⟩ := bd_ex (mi_need hf66.1 (i := k66) (by omega))
                    refine g_iald hC V 1 rfl (vp_in_nI (by omega) (by omega)) (v := (nI j_59)) (by rw [nI_clamp (by omega)]; exact ej_59) dX8_soonest_100 ?_
                    refine lv_goto (tgt := 113) hx hb dX8_soonest_101 (by decide) ?_
                    obtain ⟨f_60, ef_60⟩ : ∃ x, x = upd f66 (64 + k66) (nI j_59) := ⟨_, rfl⟩
                    have hf_60 : MS n fa f_60 := by rw [ef_60]; exact ms_st (by assumption) (by omega) (by omega) (by intros; first | (exfalso; omega) | exact bd_nI (by omega) | exact bd_le ‹bd (nI j_59) _› (by omega) | assumption) (by intros; first | (exfalso; omega) | exact bd_nI (by omega) | exact bd_le ‹bd (nI j_59) _› (by omega) | assumption) (by intros; first | (exfalso; omega) | exact bd_nI (by omega) | exact bd_le ‹bd (nI j_59) _› (by omega) | assumption) (by intros; first | (exfalso; omega) | exact bd_nI (by omega) | exact bd_le ‹bd (nI j_59) _› (by omega) | assumption) (by intros; first | (exfalso; omega) | exact bd_nI (by omega) | exact bd_le ‹bd (nI j_59) _› (by omega) | assumption) (by intros; first | (exfalso; omega) | exact bd_nI (by omega) | exact bd_le ‹bd (nI j_59) _› (by omega) | assumption) (by intros; first | (exfalso; omega) | exact bd_nI (by omega) | exact bd_le ‹bd (nI j_59) _› (by omega) | assumption)
                    refine g_iast hC V 1 rfl (vp_in_nI (by omega) (by omega)) (f' := f_60) (by rw [nI_clamp (by omega)]; exact ef_60.symm) (ws' := [(o, .inr (8, [.int (nI 0), .ref g1, .ref g2, .ref g3, .ref g4, .int (nI tp), .int w6, .int w7, .int w8, .int w9, .int w10, .int w11, .int w12, .int w13, .int w14, .ref g15, .int w16, .ref g17, .int w18, .int w19, .ref g20, .int w21, .ref g22, .ref g23, .ref g24, .int (nI 0), .int w26, .int w27, .ref g28, .ref g29, .int w30, .ref g31, .ref g32, .ref g33])), (g1, .inl (T 0, 282, .inl f_60)), (g15, .inl (T 0, 10, .inl fh)), (g17, .inl (T 0, 94, .inl gk_5)), (g23, .inl (T 1, 3001, .inr (.inl fs))), (g24, .inl (T 0, 8192, .inl fz39))]) rfl dX8_soonest_113 (fun H locs V => ?_)
                    refine lv_iinc (v := (nI (k66 + 1))) (lv' := [(1, .int (nI (k66 + 1))), (0, .ref o)]) hx hb dX8_soonest_114 hl (k := 0) rfl (nI_1 _) (by decide) rfl (fun ls hl => ?_)
                    refine lv_goto (tgt := 66) hx hb dX8_soonest_117 (by decide) ?_
                    exact ih_66 (k66 + 1) f_60 (by omega) (by assumption) (pz_s hpi ef_60 (pz_y hpi (by omega) f_57 ej_59)) (by omega) _ _ _ V (lv_sub hl [0, 1] rfl)
                  · have V : gW D T A s [(o, .inr (8, [.int (nI 0), .ref g1, .ref g2, .ref g3, .ref g4, .int (nI tp), .int w6, .int w7, .int w8, .int w9, .int w10, .int w11, .int w12, .int w13, .int w14, .ref g15, .int w16, .ref g17, .int w18, .int w19, .ref g20, .int w21, .ref g22, .ref g23, .ref g24, .int (nI 0), .int w26, .int w27, .ref g28, .ref g29, .int w30, .ref g31, .ref g32, .ref g33])), (g1, .inl (T 0, 282, .inl f66)), (g15, .inl (T 0, 10, .inl fh)), (g17, .inl (T 0, 94, .inl gk_5)), (g23, .inl (T 1, 3001, .inr (.inl fs))), (g24, .inl (T 0, 8192, .inl fz39))] H locs := V _ [0, 0] rfl rfl rfl (by decide +kernel) rfl
                    show W p l e _ s m args below meth c H locs _ _ _ (F0 m 89 ls [.int (nI 0), .int (nI (64 + k66)), .ref g1])
                    refine lv_if_eq (tgt := 104) hx hb dX8_soonest_89 (by decide) (fun _ => ?_) (fun c => absurd (show (nI 0) = 0 by decide +kernel) c)
                    refine lv_aload_n hx hb dX8_soonest_104 rfl (lv_at hl 1 rfl) ?_
                    refine g_get hC V (ci := 8) uwX8 0 rfl rfl 1 (by decide) w_913 rfl rfl dX8_soonest_105 ?_
                    refine lv_bipush (v := (nI 64)) hx hb dX8_soonest_108 (by decide +kernel) ?_
                    refine lv_iload_n hx hb dX8_soonest_110 rfl (lv_at hl 0 rfl) ?_
                    refine lv_iadd hx hb dX8_soonest_111 ?_
                    refine g_vi (y := (nI (64 + k66))) (nI_add _ _) ?_
                    obtain ⟨j_61, hj_61, ej_61⟩ := bd_ex (mi_has hf66.1 (i := k66) (by omega))
                    refine g_iald hC V 1 rfl (vp_in_nI (by omega) (by omega)) (v := (nI j_61)) (by rw [nI_clamp (by omega)]; exact ej_61) dX8_soonest_112 ?_
                    obtain ⟨f_62, ef_62⟩ : ∃ x, x = upd f66 (64 + k66) (nI j_61) := ⟨_, rfl⟩
                    have hf_62 : MS n fa f_62 := by rw [ef_62]; exact ms_st (by assumption) (by omega) (by omega) (by intros; first | (exfalso; omega) | exact bd_nI (by omega) | exact bd_le ‹bd (nI j_61) _› (by omega) | assumption) (by intros; first | (exfalso; omega) | exact bd_nI (by omega) | exact bd_le ‹bd (nI j_61) _› (by omega) | assumption) (by intros; first | (exfalso; omega) | exact bd_nI (by omega) | exact bd_le ‹bd (nI j_61) _› (by omega) | assumption) (by intros; first | (exfalso; omega) | exact bd_nI (by omega) | exact bd_le ‹bd (nI j_61) _› (by omega) | assumption) (by intros; first | (exfalso; omega) | exact bd_nI (by omega) | exact bd_le ‹bd (nI j_61) _› (by omega) | assumption) (by intros; first | (exfalso; omega) | exact bd_nI (by omega) | exact bd_le ‹bd (nI j_61) _› (by omega) | assumption) (by intros; first | (exfalso; omega) | exact bd_nI (by omega) | exact bd_le ‹bd (nI j_61) _› (by omega) | assumption)
                    refine g_iast hC V 1 rfl (vp_in_nI (by omega) (by omega)) (f' := f_62) (by rw [nI_clamp (by omega)]; exact ef_62.symm) (ws' := [(o, .inr (8, [.int (nI 0), .ref g1, .ref g2, .ref g3, .ref g4, .int (nI tp), .int w6, .int w7, .int w8, .int w9, .int w10, .int w11, .int w12, .int w13, .int w14, .ref g15, .int w16, .ref g17, .int w18, .int w19, .ref g20, .int w21, .ref g22, .ref g23, .ref g24, .int (nI 0), .int w26, .int w27, .ref g28, .ref g29, .int w30, .ref g31, .ref g32, .ref g33])), (g1, .inl (T 0, 282, .inl f_62)), (g15, .inl (T 0, 10, .inl fh)), (g17, .inl (T 0, 94, .inl gk_5)), (g23, .inl (T 1, 3001, .inr (.inl fs))), (g24, .inl (T 0, 8192, .inl fz39))]) rfl dX8_soonest_113 (fun H locs V => ?_)
                    refine lv_iinc (v := (nI (k66 + 1))) (lv' := [(1, .int (nI (k66 + 1))), (0, .ref o)]) hx hb dX8_soonest_114 hl (k := 0) rfl (nI_1 _) (by decide) rfl (fun ls hl => ?_)
                    refine lv_goto (tgt := 66) hx hb dX8_soonest_117 (by decide) ?_
                    exact ih_66 (k66 + 1) f_62 (by omega) (by assumption) (pz_s hpi ef_62 (pz_n hpi (by omega) f_58 ej_61)) (by omega) _ _ _ V (lv_sub hl [0, 1] rfl)
            exact L_9 _ 0 fa (by omega) (by assumption) pz_0 (Nat.lt_succ_self _) _ _ _ V (lv_sub hl [0, 1] rfl)
          · skip
            have c_8 := b_nle (by omega) (by omega) c_8
            refine lv_aload_n hx hb dX8_soonest_46 rfl (lv_at hl 1 rfl) ?_
            refine g_get hC V (ci := 8) uwX8 0 rfl rfl 24 (by decide) w_936 rfl rfl dX8_soonest_47 ?_
            refine lv_iload_n hx hb dX8_soonest_50 rfl (lv_at hl 0 rfl) ?_
            refine lv_iconst (v := (nI 0)) hx hb dX8_soonest_51 (by decide +kernel) ?_
            refine g_iast hC V 5 rfl (vp_in_nI (by omega) (by omega)) (f' := (upd fz39 k39 (nI 0))) (by rw [nI_clamp (by omega)]) (ws' := [(o, .inr (8, [.int (nI 0), .ref g1, .ref g2, .ref g3, .ref g4, .int (nI tp), .int w6, .int w7, .int w8, .int w9, .int w10, .int w11, .int w12, .int w13, .int w14, .ref g15, .int w16, .ref g17, .int w18, .int w19, .ref g20, .int w21, .ref g22, .ref g23, .ref g24, .int w25, .int w26, .int w27, .ref g28, .ref g29, .int w30, .ref g31, .ref g32, .ref g33])), (g1, .inl (T 0, 282, .inl fa)), (g15, .inl (T 0, 10, .inl fh)), (g17, .inl (T 0, 94, .inl gk_5)), (g23, .inl (T 1, 3001, .inr (.inl fs))), (g24, .inl (T 0, 8192, .inl (upd fz39 k39 (nI 0))))]) rfl dX8_soonest_52 (fun H locs V => ?_)
            refine lv_iinc (v := (nI (k39 + 1))) (lv' := [(1, .int (nI (k39 + 1))), (0, .ref o)]) hx hb dX8_soonest_53 hl (k := 0) rfl (nI_1 _) (by decide) rfl (fun ls hl => ?_)
            refine lv_goto (tgt := 39) hx hb dX8_soonest_56 (by decide) ?_
            exact ih_39 (k39 + 1) (upd fz39 k39 (nI 0)) (by omega) (up_one (p := fun _ y => y = nI 0) hfz rfl) (by omega) _ _ _ V (lv_sub hl [0, 1] rfl)
      exact L_7 _ 0 fc (by omega) (fun i h => absurd h (Nat.not_lt_zero _)) (Nat.lt_succ_self _) _ _ _ V (lv_sub hl [0, 1] rfl)
    · skip
      refine lv_iconst (v := (nI 0)) hx hb dX8_soonest_31 (by decide +kernel) ?_
      exact g_iret (Qr := (q_m_soonest_f T n o w0 g1 g2 g3 g4 tp w6 w7 w8 w9 w10 w11 w12 w13 w14 g15 w16 g17 w18 w19 g20 w21 g22 g23 g24 w25 w26 w27 g28 g29 w30 g31 g32 g33 fa fh fk fs fc)) hC V ⟨(Nat.le_of_ble_eq_true rfl), (Nat.le_of_ble_eq_true rfl)⟩ ⟨(nI 0), w25, w16, fh, fk, fs, fc, rfl, rfl, (soo_0 (by omega) (f_3.symm.trans c_4))⟩ dX8_soonest_32
  · skip
    have c_1 := b_nle (by omega) (by omega) c_1
    refine lv_bipush (v := (-4)) hx hb dX8_soonest_15 (by decide +kernel) ?_
    exact g_iret (Qr := (q_m_soonest_f T n o w0 g1 g2 g3 g4 tp w6 w7 w8 w9 w10 w11 w12 w13 w14 g15 w16 g17 w18 w19 g20 w21 g22 g23 g24 w25 w26 w27 g28 g29 w30 g31 g32 g33 fa fh fk fs fc)) hC V ⟨(Nat.le_of_ble_eq_true rfl), (Nat.le_of_ble_eq_true rfl)⟩ ⟨(-4), w25, w16, fh, fk, fs, fc, rfl, rfl, (soo_4 (by omega))⟩ dX8_soonest_17
