def q_m_isWarm_f (T : Nat → ClassId) (o : Nat) (j : Nat) (w0 : Int32) (g1 : Nat) (g2 : Nat) (g3 : Nat) (g4 : Nat) (tp : Nat) (w6 : Int32) (w7 : Int32) (w8 : Int32) (w9 : Int32) (w10 : Int32) (w11 : Int32) (w12 : Int32) (w13 : Int32) (w14 : Int32) (g15 : Nat) (w16 : Int32) (g17 : Nat) (w18 : Int32) (w19 : Int32) (g20 : Nat) (w21 : Int32) (g22 : Nat) (g23 : Nat) (g24 : Nat) (w25 : Int32) (w26 : Int32) (w27 : Int32) (g28 : Nat) (g29 : Nat) (w30 : Int32) (g31 : Nat) (g32 : Nat) (g33 : Nat) (fa : Nat → Int32) : Option Value → va_W → Prop := fun rr ww => (rr = some (.int (nI 1)) ∧ ww = [(o, .inr (8, [.int w0, .ref g1, .ref g2, .ref g3, .ref g4, .int (nI tp), .int w6, .int w7, .int w8, .int w9, .int w10, .int w11, .int w12, .int w13, .int w14, .ref g15, .int w16, .ref g17, .int w18, .int w19, .ref g20, .int w21, .ref g22, .ref g23, .ref g24, .int w25, .int w26, .int w27, .ref g28, .ref g29, .int w30, .ref g31, .ref g32, .ref g33])), (g1, .inl (T 0, 282, .inl fa))] ∧ warmP fa j) ∨ (rr = some (.int (nI 0)) ∧ ww = [(o, .inr (8, [.int w0, .ref g1, .ref g2, .ref g3, .ref g4, .int (nI tp), .int w6, .int w7, .int w8, .int w9, .int w10, .int w11, .int w12, .int w13, .int w14, .ref g15, .int w16, .ref g17, .int w18, .int w19, .ref g20, .int w21, .ref g22, .ref g23, .ref g24, .int w25, .int w26, .int w27, .ref g28, .ref g29, .int w30, .ref g31, .ref g32, .ref g33])), (g1, .inl (T 0, 282, .inl fa))] ∧ ¬ warmP fa j)
set_option maxHeartbeats 4000000 in
set_option maxRecDepth 100000 in
theorem m_isWarm_f (l : Launch) (D : va_G) (T : Nat → ClassId) (o : Nat) (j : Nat) (w0 : Int32) (g1 : Nat) (g2 : Nat) (g3 : Nat) (g4 : Nat) (tp : Nat) (w6 : Int32) (w7 : Int32) (w8 : Int32) (w9 : Int32) (w10 : Int32) (w11 : Int32) (w12 : Int32) (w13 : Int32) (w14 : Int32) (g15 : Nat) (w16 : Int32) (g17 : Nat) (w18 : Int32) (w19 : Int32) (g20 : Nat) (w21 : Int32) (g22 : Nat) (g23 : Nat) (g24 : Nat) (w25 : Int32) (w26 : Int32) (w27 : Int32) (g28 : Nat) (g29 : Nat) (w30 : Int32) (g31 : Nat) (g32 : Nat) (g33 : Nat) (fa : Nat → Int32) (h_j : j < 10) : Ct l yX8_isWarm cX8_isWarm 2 (some .boolean) 0 0 0 D T [.ref o, .int (nI j)] [(o, .inr (8, [.int w0, .ref g1, .ref g2, .ref g3, .ref g4, .int (nI tp), .int w6, .int w7, .int w8, .int w9, .int w10, .int w11, .int w12, .int w13, .int w14, .ref g15, .int w16, .ref g17, .int w18, .int w19, .ref g20, .int w21, .ref g22, .ref g23, .ref g24, .int w25, .int w26, .int w27, .ref g28, .ref g29, .int w30, .ref g31, .ref g32, .ref g33])), (g1, .inl (T 0, 282, .inl fa))] (q_m_isWarm_f T o j w0 g1 g2 g3 g4 tp w6 w7 w8 w9 w10 w11 w12 w13 w14 g15 w16 g17 w18 w19 g20 w21 g22 g23 g24 w25 w26 w27 g28 g29 w30 g31 g32 g33 fa) := by
  refine Ct.of (cc := cX8_isWarm) (maxL := 2) (ret := (some .boolean)) (by decide) (Nat.le_of_ble_eq_true rfl) ?_
  intro p e s m args below meth c A ls hC hnm V hl
  obtain ⟨hx, hb, hr, hml, hown, hts, hlocks⟩ := id hC
  generalize hH : s.heap = H at V ⊢
  clear hH
  have hl : lv_has ls 2 [(0, .ref o), (1, .int (nI j))] := hl
  generalize hlo : ([] : List Loc) = locs at V ⊢
  clear hlo
  refine lv_aload_n hx hb dX8_isWarm_0 rfl (lv_at hl 0 rfl) ?_
  refine g_get hC V (ci := 8) uwX8 0 rfl rfl 1 (by decide) w_913 rfl rfl dX8_isWarm_1 ?_
  refine lv_bipush (v := (nI 24)) hx hb dX8_isWarm_4 (by decide +kernel) ?_
  refine lv_iload_n hx hb dX8_isWarm_6 rfl (lv_at hl 1 rfl) ?_
  refine lv_iadd hx hb dX8_isWarm_7 ?_
  refine g_vi (y := (nI (24 + j))) (nI_add _ _) ?_
  refine g_iald hC V 1 rfl (vp_in_nI (by omega) (by omega)) (v := (fa (24 + j))) (congrArg _ (nI_clamp (by omega))) dX8_isWarm_8 ?_
  refine lv_aload_n hx hb dX8_isWarm_9 rfl (lv_at hl 0 rfl) ?_
  refine g_get hC V (ci := 8) uwX8 0 rfl rfl 1 (by decide) w_913 rfl rfl dX8_isWarm_10 ?_
  refine lv_bipush (v := (nI 34)) hx hb dX8_isWarm_13 (by decide +kernel) ?_
  refine lv_iload_n hx hb dX8_isWarm_15 rfl (lv_at hl 1 rfl) ?_
  refine lv_iadd hx hb dX8_isWarm_16 ?_
  refine g_vi (y := (nI (34 + j))) (nI_add _ _) ?_
  refine g_iald hC V 1 rfl (vp_in_nI (by omega) (by omega)) (v := (fa (34 + j))) (congrArg _ (nI_clamp (by omega))) dX8_isWarm_17 ?_
  refine lv_icmp_lt (tgt := 46) hx hb dX8_isWarm_18 (by decide) (fun c_1 => ?_) (fun c_1 => ?_)
  · skip
    refine lv_iconst (v := (nI 0)) hx hb dX8_isWarm_46 (by decide +kernel) ?_
    exact g_zret (Qr := (q_m_isWarm_f T o j w0 g1 g2 g3 g4 tp w6 w7 w8 w9 w10 w11 w12 w13 w14 g15 w16 g17 w18 w19 g20 w21 g22 g23 g24 w25 w26 w27 g28 g29 w30 g31 g32 g33 fa)) hC V ⟨(Nat.le_of_ble_eq_true rfl), (Nat.le_of_ble_eq_true rfl)⟩ (by first | decide +kernel | exact rfl) (.inr ⟨rfl, rfl, (by first | exact fun h => h.1 (by assumption) | exact fun h => h.2 (by assumption))⟩) dX8_isWarm_47
  · skip
    refine lv_aload_n hx hb dX8_isWarm_21 rfl (lv_at hl 0 rfl) ?_
    refine g_get hC V (ci := 8) uwX8 0 rfl rfl 1 (by decide) w_913 rfl rfl dX8_isWarm_22 ?_
    refine lv_bipush (v := (nI 24)) hx hb dX8_isWarm_25 (by decide +kernel) ?_
    refine lv_iload_n hx hb dX8_isWarm_27 rfl (lv_at hl 1 rfl) ?_
    refine lv_iadd hx hb dX8_isWarm_28 ?_
    refine g_vi (y := (nI (24 + j))) (nI_add _ _) ?_
    refine g_iald hC V 1 rfl (vp_in_nI (by omega) (by omega)) (v := (fa (24 + j))) (congrArg _ (nI_clamp (by omega))) dX8_isWarm_29 ?_
    refine lv_aload_n hx hb dX8_isWarm_30 rfl (lv_at hl 0 rfl) ?_
    refine g_get hC V (ci := 8) uwX8 0 rfl rfl 1 (by decide) w_913 rfl rfl dX8_isWarm_31 ?_
    refine lv_bipush (v := (nI 44)) hx hb dX8_isWarm_34 (by decide +kernel) ?_
    refine lv_iload_n hx hb dX8_isWarm_36 rfl (lv_at hl 1 rfl) ?_
    refine lv_iadd hx hb dX8_isWarm_37 ?_
    refine g_vi (y := (nI (44 + j))) (nI_add _ _) ?_
    refine g_iald hC V 1 rfl (vp_in_nI (by omega) (by omega)) (v := (fa (44 + j))) (congrArg _ (nI_clamp (by omega))) dX8_isWarm_38 ?_
    refine lv_icmp_gt (tgt := 46) hx hb dX8_isWarm_39 (by decide) (fun c_2 => ?_) (fun c_2 => ?_)
    · skip
      refine lv_iconst (v := (nI 0)) hx hb dX8_isWarm_46 (by decide +kernel) ?_
      exact g_zret (Qr := (q_m_isWarm_f T o j w0 g1 g2 g3 g4 tp w6 w7 w8 w9 w10 w11 w12 w13 w14 g15 w16 g17 w18 w19 g20 w21 g22 g23 g24 w25 w26 w27 g28 g29 w30 g31 g32 g33 fa)) hC V ⟨(Nat.le_of_ble_eq_true rfl), (Nat.le_of_ble_eq_true rfl)⟩ (by first | decide +kernel | exact rfl) (.inr ⟨rfl, rfl, (by first | exact fun h => h.1 (by assumption) | exact fun h => h.2 (by assumption))⟩) dX8_isWarm_47
    · skip
      refine lv_iconst (v := (nI 1)) hx hb dX8_isWarm_42 (by decide +kernel) ?_
      refine lv_goto (tgt := 47) hx hb dX8_isWarm_43 (by decide) ?_
      exact g_zret (Qr := (q_m_isWarm_f T o j w0 g1 g2 g3 g4 tp w6 w7 w8 w9 w10 w11 w12 w13 w14 g15 w16 g17 w18 w19 g20 w21 g22 g23 g24 w25 w26 w27 g28 g29 w30 g31 g32 g33 fa)) hC V ⟨(Nat.le_of_ble_eq_true rfl), (Nat.le_of_ble_eq_true rfl)⟩ (by first | decide +kernel | exact rfl) (.inl ⟨rfl, rfl, ⟨by assumption, by assumption⟩⟩) dX8_isWarm_47

def q_m_heatThen_f (T : Nat → ClassId) (n : Nat) (o : Nat) (j : Nat) (pl : Int32) (mr : Int32) (w0 : Int32) (g1 : Nat) (g2 : Nat) (g3 : Nat) (g4 : Nat) (tp : Nat) (w6 : Int32) (w7 : Int32) (w8 : Int32) (w9 : Int32) (w10 : Int32) (w11 : Int32) (w12 : Int32) (w13 : Int32) (w14 : Int32) (g15 : Nat) (w16 : Int32) (g17 : Nat) (w18 : Int32) (w19 : Int32) (g20 : Nat) (w21 : Int32) (g22 : Nat) (g23 : Nat) (g24 : Nat) (w25 : Int32) (w26 : Int32) (w27 : Int32) (g28 : Nat) (g29 : Nat) (w30 : Int32) (g31 : Nat) (g32 : Nat) (g33 : Nat) (fa : Nat → Int32) : Option Value → va_W → Prop := fun rr ww => (∃ (z : Int32), rr = some (.int z) ∧ ww = [(o, .inr (8, [.int w0, .ref g1, .ref g2, .ref g3, .ref g4, .int (nI tp), .int w6, .int w7, .int w8, .int w9, .int w10, .int w11, .int w12, .int w13, .int w14, .ref g15, .int w16, .ref g17, .int w18, .int w19, .ref g20, .int w21, .ref g22, .ref g23, .ref g24, .int w25, .int w26, .int w27, .ref g28, .ref g29, .int w30, .ref g31, .ref g32, .ref g33])), (g1, .inl (T 0, 282, .inl fa))] ∧ bd z 201 ∧ z = ibf (fa (24 + j) + mr - fa (14 + j) + bsF fa pl j n))
set_option maxHeartbeats 4000000 in
set_option maxRecDepth 100000 in
theorem m_heatThen_f (l : Launch) (D : va_G) (T : Nat → ClassId) (n : Nat) (o : Nat) (j : Nat) (pl : Int32) (mr : Int32) (w0 : Int32) (g1 : Nat) (g2 : Nat) (g3 : Nat) (g4 : Nat) (tp : Nat) (w6 : Int32) (w7 : Int32) (w8 : Int32) (w9 : Int32) (w10 : Int32) (w11 : Int32) (w12 : Int32) (w13 : Int32) (w14 : Int32) (g15 : Nat) (w16 : Int32) (g17 : Nat) (w18 : Int32) (w19 : Int32) (g20 : Nat) (w21 : Int32) (g22 : Nat) (g23 : Nat) (g24 : Nat) (w25 : Int32) (w26 : Int32) (w27 : Int32) (g28 : Nat) (g29 : Nat) (w30 : Int32) (g31 : Nat) (g32 : Nat) (g33 : Nat) (fa : Nat → Int32) (h_a : MI n fa) (h_j : j < n) : Ct l yX8_heatThen cX8_heatThen 6 (some .int) 1 0 0 D T [.ref o, .int (nI j), .int pl, .int mr] [(o, .inr (8, [.int w0, .ref g1, .ref g2, .ref g3, .ref g4, .int (nI tp), .int w6, .int w7, .int w8, .int w9, .int w10, .int w11, .int w12, .int w13, .int w14, .ref g15, .int w16, .ref g17, .int w18, .int w19, .ref g20, .int w21, .ref g22, .ref g23, .ref g24, .int w25, .int w26, .int w27, .ref g28, .ref g29, .int w30, .ref g31, .ref g32, .ref g33])), (g1, .inl (T 0, 282, .inl fa))] (q_m_heatThen_f T n o j pl mr w0 g1 g2 g3 g4 tp w6 w7 w8 w9 w10 w11 w12 w13 w14 g15 w16 g17 w18 w19 g20 w21 g22 g23 g24 w25 w26 w27 g28 g29 w30 g31 g32 g33 fa) := by
  refine Ct.of (cc := cX8_heatThen) (maxL := 6) (ret := (some .int)) (by decide) (Nat.le_of_ble_eq_true rfl) ?_
  intro p e s m args below meth c A ls hC hnm V hl
  obtain ⟨hx, hb, hr, hml, hown, hts, hlocks⟩ := id hC
  generalize hH : s.heap = H at V ⊢
  clear hH
  have hl : lv_has ls 6 [(0, .ref o), (1, .int (nI j)), (2, .int pl), (3, .int mr)] := hl
  generalize hlo : ([] : List Loc) = locs at V ⊢
  clear hlo
  have hn10 := h_a.1
  refine lv_aload_n hx hb dX8_heatThen_0 rfl (lv_at hl 0 rfl) ?_
  refine g_get hC V (ci := 8) uwX8 0 rfl rfl 1 (by decide) w_913 rfl rfl dX8_heatThen_1 ?_
  refine lv_bipush (v := (nI 24)) hx hb dX8_heatThen_4 (by decide +kernel) ?_
  refine lv_iload_n hx hb dX8_heatThen_6 rfl (lv_at hl 1 rfl) ?_
  refine lv_iadd hx hb dX8_heatThen_7 ?_
  refine g_vi (y := (nI (24 + j))) (nI_add _ _) ?_
  refine g_iald hC V 1 rfl (vp_in_nI (by omega) (by omega)) (v := (fa (24 + j))) (congrArg _ (nI_clamp (by omega))) dX8_heatThen_8 ?_
  refine lv_iload_n hx hb dX8_heatThen_9 rfl (lv_at hl 3 rfl) ?_
  refine lv_iadd hx hb dX8_heatThen_10 ?_
  refine lv_aload_n hx hb dX8_heatThen_11 rfl (lv_at hl 0 rfl) ?_
  refine g_get hC V (ci := 8) uwX8 0 rfl rfl 1 (by decide) w_913 rfl rfl dX8_heatThen_12 ?_
  refine lv_bipush (v := (nI 14)) hx hb dX8_heatThen_15 (by decide +kernel) ?_
  refine lv_iload_n hx hb dX8_heatThen_17 rfl (lv_at hl 1 rfl) ?_
  refine lv_iadd hx hb dX8_heatThen_18 ?_
  refine g_vi (y := (nI (14 + j))) (nI_add _ _) ?_
  refine g_iald hC V 1 rfl (vp_in_nI (by omega) (by omega)) (v := (fa (14 + j))) (congrArg _ (nI_clamp (by omega))) dX8_heatThen_19 ?_
  refine lv_isub hx hb dX8_heatThen_20 ?_
  refine lv_istore (lv' := [(4, .int (((fa (24 + j)) + mr) - (fa (14 + j)))), (0, .ref o), (1, .int (nI j)), (2, .int pl), (3, .int mr)]) hx hb dX8_heatThen_21 hl (by decide) rfl (fun ls hl => ?_)
  refine lv_iconst (v := (nI 0)) hx hb dX8_heatThen_23 (by decide +kernel) ?_
  refine lv_istore (lv' := [(5, .int (nI 0)), (4, .int (((fa (24 + j)) + mr) - (fa (14 + j)))), (0, .ref o), (1, .int (nI j)), (2, .int pl), (3, .int mr)]) hx hb dX8_heatThen_24 hl (by decide) rfl (fun ls hl => ?_)
  have L_1 : ∀ (fu : Nat) (k26 : Nat) (hv : Int32), k26 ≤ n → hv = fa (24 + j) + mr - fa (14 + j) + bsF fa pl j k26 → n - k26 < fu → ∀ (H : Heap) (locs : List Loc) (ls : Array Slot), gW D T A s [(o, .inr (8, [.int w0, .ref g1, .ref g2, .ref g3, .ref g4, .int (nI tp), .int w6, .int w7, .int w8, .int w9, .int w10, .int w11, .int w12, .int w13, .int w14, .ref g15, .int w16, .ref g17, .int w18, .int w19, .ref g20, .int w21, .ref g22, .ref g23, .ref g24, .int w25, .int w26, .int w27, .ref g28, .ref g29, .int w30, .ref g31, .ref g32, .ref g33])), (g1, .inl (T 0, 282, .inl fa))] H locs → lv_has ls 6 [(5, .int (nI k26)), (4, .int hv), (0, .ref o), (1, .int (nI j)), (2, .int pl), (3, .int mr)] → W p l e (rmD 1 0 0) s m args below meth c H locs 0 0 (MQ below (gQ D A (q_m_heatThen_f T n o j pl mr w0 g1 g2 g3 g4 tp w6 w7 w8 w9 w10 w11 w12 w13 w14 g15 w16 g17 w18 w19 g20 w21 g22 g23 g24 w25 w26 w27 g28 g29 w30 g31 g32 g33 fa)) args s 0 0 A) (F0 m 26 ls []) := by
    intro fu_26
    induction fu_26 with
    | zero => intro k26 hv hk26 hhv hmu; exact absurd hmu (Nat.not_lt_zero _)
    | succ fu_26 ih_26 =>
      intro k26 hv hk26 hhv hmu_26 H locs ls V hl
      refine lv_iload hx hb dX8_heatThen_26 (lv_at hl 0 rfl) ?_
      refine lv_aload_n hx hb dX8_heatThen_28 rfl (lv_at hl 2 rfl) ?_
      refine g_get hC V (ci := 8) uwX8 0 rfl rfl 1 (by decide) w_913 rfl rfl dX8_heatThen_29 ?_
      refine lv_iconst (v := (nI 0)) hx hb dX8_heatThen_32 (by decide +kernel) ?_
      refine g_iald hC V 1 rfl (vp_in_nI (by decide) (by decide)) (v := (nI n)) (by rw [nI_clamp (by decide)]; first | rfl | exact h_a.2.1) dX8_heatThen_33 ?_
      refine lv_icmp_ge (tgt := 85) hx hb dX8_heatThen_34 (by decide) (fun c_2 => ?_) (fun c_2 => ?_)
      · skip
        have c_2 := b_le (by omega) (by omega) c_2
        refine lv_iload hx hb dX8_heatThen_85 (lv_at hl 1 rfl) ?_
        refine g_callSU (nA := 1) hC V hl.1 (m_inBounds l D T hv) w_1133 w_1134 w_9 w_1135 (by decide +kernel) rfl ⟨(Nat.le_of_ble_eq_true rfl), (Nat.le_of_ble_eq_true rfl)⟩ [] rfl rfl (Nat.le_of_ble_eq_true rfl) dX8_heatThen_87 ⟨(Nat.le_of_ble_eq_true rfl), (Nat.le_of_ble_eq_true rfl)⟩ rfl (fun r w1 H locs hQ V => ?_)
        obtain ⟨z_3, rfl, rfl, f_4, f_5⟩ := hQ
        have V : gW D T A s [(o, .inr (8, [.int w0, .ref g1, .ref g2, .ref g3, .ref g4, .int (nI tp), .int w6, .int w7, .int w8, .int w9, .int w10, .int w11, .int w12, .int w13, .int w14, .ref g15, .int w16, .ref g17, .int w18, .int w19, .ref g20, .int w21, .ref g22, .ref g23, .ref g24, .int w25, .int w26, .int w27, .ref g28, .ref g29, .int w30, .ref g31, .ref g32, .ref g33])), (g1, .inl (T 0, 282, .inl fa))] H locs := V _ [] rfl rfl rfl (by decide +kernel) rfl
        show W p l e _ s m args below meth c H locs _ _ _ (F0 m 90 ls [.int z_3])
        exact g_iret (Qr := (q_m_heatThen_f T n o j pl mr w0 g1 g2 g3 g4 tp w6 w7 w8 w9 w10 w11 w12 w13 w14 g15 w16 g17 w18 w19 g20 w21 g22 g23 g24 w25 w26 w27 g28 g29 w30 g31 g32 g33 fa)) hC V ⟨(Nat.le_of_ble_eq_true rfl), (Nat.le_of_ble_eq_true rfl)⟩ ⟨z_3, rfl, rfl, f_4, (by rw [f_5, hhv]; congr 3; omega)⟩ dX8_heatThen_90
      · skip
        have c_2 := b_nle (by omega) (by omega) c_2
        refine lv_iload hx hb dX8_heatThen_37 (lv_at hl 1 rfl) ?_
        refine lv_iload_n hx hb dX8_heatThen_39 rfl (lv_at hl 4 rfl) ?_
        refine lv_i2l (v := pl.toInt64) hx hb dX8_heatThen_40 rfl ?_
        refine lv_iload hx hb dX8_heatThen_41 (lv_at hl 0 rfl) ?_
        refine g_callSU (nA := 2) hC V hl.1 (m_isIn_f l D T pl k26 (by omega)) w_1130 w_1131 w_9 w_1132 (by decide +kernel) rfl ⟨(Nat.le_of_ble_eq_true rfl), (Nat.le_of_ble_eq_true rfl)⟩ [] rfl rfl (Nat.le_of_ble_eq_true rfl) dX8_heatThen_43 ⟨(Nat.le_of_ble_eq_true rfl), (Nat.le_of_ble_eq_true rfl)⟩ rfl (fun r w1 H locs hQ V => ?_)
        rcases hQ with ⟨rfl, rfl, f_6⟩ | ⟨rfl, rfl, f_7⟩
        · have V : gW D T A s [(o, .inr (8, [.int w0, .ref g1, .ref g2, .ref g3, .ref g4, .int (nI tp), .int w6, .int w7, .int w8, .int w9, .int w10, .int w11, .int w12, .int w13, .int w14, .ref g15, .int w16, .ref g17, .int w18, .int w19, .ref g20, .int w21, .ref g22, .ref g23, .ref g24, .int w25, .int w26, .int w27, .ref g28, .ref g29, .int w30, .ref g31, .ref g32, .ref g33])), (g1, .inl (T 0, 282, .inl fa))] H locs := V _ [] rfl rfl rfl (by decide +kernel) rfl
          show W p l e _ s m args below meth c H locs _ _ _ (F0 m 46 ls [.int (nI 1), .int hv])
          refine lv_if_eq (tgt := 75) hx hb dX8_heatThen_46 (by decide) (fun c => absurd (show (nI 1) = 0 from c) (by decide +kernel)) (fun _ => ?_)
          refine lv_aload_n hx hb dX8_heatThen_49 rfl (lv_at hl 2 rfl) ?_
          refine g_get hC V (ci := 8) uwX8 0 rfl rfl 1 (by decide) w_913 rfl rfl dX8_heatThen_50 ?_
          refine lv_bipush (v := (nI 84)) hx hb dX8_heatThen_53 (by decide +kernel) ?_
          refine lv_iload hx hb dX8_heatThen_55 (lv_at hl 0 rfl) ?_
          refine lv_iadd hx hb dX8_heatThen_57 ?_
          refine g_vi (y := (nI (84 + k26))) (nI_add _ _) ?_
          refine g_iald hC V 1 rfl (vp_in_nI (by omega) (by omega)) (v := (fa (84 + k26))) (congrArg _ (nI_clamp (by omega))) dX8_heatThen_58 ?_
          refine lv_iload_n hx hb dX8_heatThen_59 rfl (lv_at hl 3 rfl) ?_
          refine lv_icmp_ne (tgt := 75) hx hb dX8_heatThen_60 (by decide) (fun c_8 => ?_) (fun c_8 => ?_)
          · skip
            refine lv_iconst (v := (nI 0)) hx hb dX8_heatThen_75 (by decide +kernel) ?_
            refine lv_iadd hx hb dX8_heatThen_76 ?_
            refine lv_istore (lv' := [(4, .int (hv + (nI 0))), (5, .int (nI k26)), (0, .ref o), (1, .int (nI j)), (2, .int pl), (3, .int mr)]) hx hb dX8_heatThen_77 hl (by decide) rfl (fun ls hl => ?_)
            refine lv_iinc (v := (nI (k26 + 1))) (lv' := [(5, .int (nI (k26 + 1))), (4, .int (hv + (nI 0))), (0, .ref o), (1, .int (nI j)), (2, .int pl), (3, .int mr)]) hx hb dX8_heatThen_79 hl (k := 1) rfl (nI_1 _) (by decide) rfl (fun ls hl => ?_)
            refine lv_goto (tgt := 26) hx hb dX8_heatThen_82 (by decide) ?_
            exact ih_26 (k26 + 1) (hv + (nI 0)) (by omega) (by rw [hhv]; exact bs_n (fun q => c_8 q.2)) (by omega) _ _ _ V (lv_sub hl [0, 1, 2, 3, 4, 5] rfl)
          · skip
            refine lv_aload_n hx hb dX8_heatThen_63 rfl (lv_at hl 2 rfl) ?_
            refine g_get hC V (ci := 8) uwX8 0 rfl rfl 1 (by decide) w_913 rfl rfl dX8_heatThen_64 ?_
            refine lv_iconst (v := (nI 4)) hx hb dX8_heatThen_67 (by decide +kernel) ?_
            refine lv_iload hx hb dX8_heatThen_68 (lv_at hl 0 rfl) ?_
            refine lv_iadd hx hb dX8_heatThen_70 ?_
            refine g_vi (y := (nI (4 + k26))) (nI_add _ _) ?_
            refine g_iald hC V 1 rfl (vp_in_nI (by omega) (by omega)) (v := (fa (4 + k26))) (congrArg _ (nI_clamp (by omega))) dX8_heatThen_71 ?_
            refine lv_goto (tgt := 76) hx hb dX8_heatThen_72 (by decide) ?_
            refine lv_iadd hx hb dX8_heatThen_76 ?_
            refine lv_istore (lv' := [(4, .int (hv + (fa (4 + k26)))), (5, .int (nI k26)), (0, .ref o), (1, .int (nI j)), (2, .int pl), (3, .int mr)]) hx hb dX8_heatThen_77 hl (by decide) rfl (fun ls hl => ?_)
            refine lv_iinc (v := (nI (k26 + 1))) (lv' := [(5, .int (nI (k26 + 1))), (4, .int (hv + (fa (4 + k26)))), (0, .ref o), (1, .int (nI j)), (2, .int pl), (3, .int mr)]) hx hb dX8_heatThen_79 hl (k := 1) rfl (nI_1 _) (by decide) rfl (fun ls hl => ?_)
            refine lv_goto (tgt := 26) hx hb dX8_heatThen_82 (by decide) ?_
            exact ih_26 (k26 + 1) (hv + (fa (4 + k26))) (by omega) (by rw [hhv]; exact bs_y f_6 c_8) (by omega) _ _ _ V (lv_sub hl [0, 1, 2, 3, 4, 5] rfl)
        · have V : gW D T A s [(o, .inr (8, [.int w0, .ref g1, .ref g2, .ref g3, .ref g4, .int (nI tp), .int w6, .int w7, .int w8, .int w9, .int w10, .int w11, .int w12, .int w13, .int w14, .ref g15, .int w16, .ref g17, .int w18, .int w19, .ref g20, .int w21, .ref g22, .ref g23, .ref g24, .int w25, .int w26, .int w27, .ref g28, .ref g29, .int w30, .ref g31, .ref g32, .ref g33])), (g1, .inl (T 0, 282, .inl fa))] H locs := V _ [] rfl rfl rfl (by decide +kernel) rfl
          show W p l e _ s m args below meth c H locs _ _ _ (F0 m 46 ls [.int (nI 0), .int hv])
          refine lv_if_eq (tgt := 75) hx hb dX8_heatThen_46 (by decide) (fun _ => ?_) (fun c => absurd (show (nI 0) = 0 by decide +kernel) c)
          refine lv_iconst (v := (nI 0)) hx hb dX8_heatThen_75 (by decide +kernel) ?_
          refine lv_iadd hx hb dX8_heatThen_76 ?_
          refine lv_istore (lv' := [(4, .int (hv + (nI 0))), (5, .int (nI k26)), (0, .ref o), (1, .int (nI j)), (2, .int pl), (3, .int mr)]) hx hb dX8_heatThen_77 hl (by decide) rfl (fun ls hl => ?_)
          refine lv_iinc (v := (nI (k26 + 1))) (lv' := [(5, .int (nI (k26 + 1))), (4, .int (hv + (nI 0))), (0, .ref o), (1, .int (nI j)), (2, .int pl), (3, .int mr)]) hx hb dX8_heatThen_79 hl (k := 1) rfl (nI_1 _) (by decide) rfl (fun ls hl => ?_)
          refine lv_goto (tgt := 26) hx hb dX8_heatThen_82 (by decide) ?_
          exact ih_26 (k26 + 1) (hv + (nI 0)) (by omega) (by rw [hhv]; exact bs_n (fun q => f_7 q.1)) (by omega) _ _ _ V (lv_sub hl [0, 1, 2, 3, 4, 5] rfl)
  exact L_1 _ 0 (((fa (24 + j)) + mr) - (fa (14 + j))) (by omega) (add_n0 _) (Nat.lt_succ_self _) _ _ _ V (lv_sub hl [0, 1, 2, 3, 4, 5] rfl)

def q_m_goes_f (T : Nat → ClassId) (n : Nat) (o : Nat) (pl : Int32) (sk : Int32) (fi : Int32) (mr : Int32) (w0 : Int32) (g1 : Nat) (g2 : Nat) (g3 : Nat) (g4 : Nat) (tp : Nat) (w6 : Int32) (w7 : Int32) (w8 : Int32) (w9 : Int32) (w10 : Int32) (w11 : Int32) (w12 : Int32) (w13 : Int32) (w14 : Int32) (g15 : Nat) (w16 : Int32) (g17 : Nat) (w18 : Int32) (w19 : Int32) (g20 : Nat) (w21 : Int32) (g22 : Nat) (g23 : Nat) (g24 : Nat) (w25 : Int32) (w26 : Int32) (w27 : Int32) (g28 : Nat) (g29 : Nat) (w30 : Int32) (g31 : Nat) (g32 : Nat) (g33 : Nat) (fa : Nat → Int32) (fh : Nat → Int32) : Option Value → va_W → Prop := fun rr ww => (∃ (z : Int32) (bm : Int32) (ga : Nat → Int32) (gh : Nat → Int32), rr = some (.int z) ∧ ww = [(o, .inr (8, [.int w0, .ref g1, .ref g2, .ref g3, .ref g4, .int (nI tp), .int w6, .int w7, .int w8, .int w9, .int w10, .int w11, .int w12, .int w13, .int w14, .ref g15, .int bm, .ref g17, .int w18, .int w19, .ref g20, .int w21, .ref g22, .ref g23, .ref g24, .int w25, .int w26, .int w27, .ref g28, .ref g29, .int w30, .ref g31, .ref g32, .ref g33])), (g1, .inl (T 0, 282, .inl ga)), (g15, .inl (T 0, 10, .inl gh))] ∧ MS n fa ga ∧ z = goC fa sk n ∧ ga = goF n fa pl sk fi mr ∧ bm = w16 + goB n fa pl sk fi mr n)
set_option maxHeartbeats 8000000 in
set_option maxRecDepth 100000 in
theorem m_goes_f (l : Launch) (D : va_G) (T : Nat → ClassId) (n : Nat) (o : Nat) (pl : Int32) (sk : Int32) (fi : Int32) (mr : Int32) (w0 : Int32) (g1 : Nat) (g2 : Nat) (g3 : Nat) (g4 : Nat) (tp : Nat) (w6 : Int32) (w7 : Int32) (w8 : Int32) (w9 : Int32) (w10 : Int32) (w11 : Int32) (w12 : Int32) (w13 : Int32) (w14 : Int32) (g15 : Nat) (w16 : Int32) (g17 : Nat) (w18 : Int32) (w19 : Int32) (g20 : Nat) (w21 : Int32) (g22 : Nat) (g23 : Nat) (g24 : Nat) (w25 : Int32) (w26 : Int32) (w27 : Int32) (g28 : Nat) (g29 : Nat) (w30 : Int32) (g31 : Nat) (g32 : Nat) (g33 : Nat) (fa : Nat → Int32) (fh : Nat → Int32) (h_a : MI n fa) : Ct l yX8_goes cX8_goes 7 (some .int) 2 0 0 D T [.ref o, .int pl, .int sk, .int fi, .int mr] [(o, .inr (8, [.int w0, .ref g1, .ref g2, .ref g3, .ref g4, .int (nI tp), .int w6, .int w7, .int w8, .int w9, .int w10, .int w11, .int w12, .int w13, .int w14, .ref g15, .int w16, .ref g17, .int w18, .int w19, .ref g20, .int w21, .ref g22, .ref g23, .ref g24, .int w25, .int w26, .int w27, .ref g28, .ref g29, .int w30, .ref g31, .ref g32, .ref g33])), (g1, .inl (T 0, 282, .inl fa)), (g15, .inl (T 0, 10, .inl fh))] (q_m_goes_f T n o pl sk fi mr w0 g1 g2 g3 g4 tp w6 w7 w8 w9 w10 w11 w12 w13 w14 g15 w16 g17 w18 w19 g20 w21 g22 g23 g24 w25 w26 w27 g28 g29 w30 g31 g32 g33 fa fh) := by
  refine Ct.of (cc := cX8_goes) (maxL := 7) (ret := (some .int)) (by decide) (Nat.le_of_ble_eq_true rfl) ?_
  intro p e s m args below meth c A ls hC hnm V hl
  obtain ⟨hx, hb, hr, hml, hown, hts, hlocks⟩ := id hC
  generalize hH : s.heap = H at V ⊢
  clear hH
  have hl : lv_has ls 7 [(0, .ref o), (1, .int pl), (2, .int sk), (3, .int fi), (4, .int mr)] := hl
  generalize hlo : ([] : List Loc) = locs at V ⊢
  clear hlo
  have ms0 := ms_rf h_a
  have hn10 := h_a.1
  refine lv_iconst (v := (nI 0)) hx hb dX8_goes_0 (by decide +kernel) ?_
  refine lv_istore (lv' := [(5, .int (nI 0)), (0, .ref o), (1, .int pl), (2, .int sk), (3, .int fi), (4, .int mr)]) hx hb dX8_goes_1 hl (by decide) rfl (fun ls hl => ?_)
  refine lv_iconst (v := (nI 0)) hx hb dX8_goes_3 (by decide +kernel) ?_
  refine lv_istore (lv' := [(6, .int (nI 0)), (5, .int (nI 0)), (0, .ref o), (1, .int pl), (2, .int sk), (3, .int fi), (4, .int mr)]) hx hb dX8_goes_4 hl (by decide) rfl (fun ls hl => ?_)
  have L_1 : ∀ (fu : Nat) (k6 : Nat) (x5 : Int32) (th6 : Nat → Int32) (f6 : Nat → Int32), k6 ≤ n → MS n fa f6 → (∀ i, i < k6 → bd (th6 i) 201) → (∀ j, (j < 64 ∨ 64 + k6 ≤ j) → f6 j = fa j) → (∀ i, i < k6 → f6 (64 + i) = st1 fa sk i) → (∀ i, i < k6 → th6 i = hNw n fa pl fi mr i) → x5 = goC fa sk k6 → n - k6 < fu → ∀ (H : Heap) (locs : List Loc) (ls : Array Slot), gW D T A s [(o, .inr (8, [.int w0, .ref g1, .ref g2, .ref g3, .ref g4, .int (nI tp), .int w6, .int w7, .int w8, .int w9, .int w10, .int w11, .int w12, .int w13, .int w14, .ref g15, .int w16, .ref g17, .int w18, .int w19, .ref g20, .int w21, .ref g22, .ref g23, .ref g24, .int w25, .int w26, .int w27, .ref g28, .ref g29, .int w30, .ref g31, .ref g32, .ref g33])), (g1, .inl (T 0, 282, .inl f6)), (g15, .inl (T 0, 10, .inl th6))] H locs → lv_has ls 7 [(6, .int (nI k6)), (5, .int x5), (0, .ref o), (1, .int pl), (2, .int sk), (3, .int fi), (4, .int mr)] → W p l e (rmD 2 0 0) s m args below meth c H locs 0 0 (MQ below (gQ D A (q_m_goes_f T n o pl sk fi mr w0 g1 g2 g3 g4 tp w6 w7 w8 w9 w10 w11 w12 w13 w14 g15 w16 g17 w18 w19 g20 w21 g22 g23 g24 w25 w26 w27 g28 g29 w30 g31 g32 g33 fa fh)) args s 0 0 A) (F0 m 6 ls []) := by
    intro fu_6
    induction fu_6 with
    | zero => intro k6 x5 th6 f6 hk6 hf6 hth6 hA6 hB6 hT6 hC6 hmu; exact absurd hmu (Nat.not_lt_zero _)
    | succ fu_6 ih_6 =>
      intro k6 x5 th6 f6 hk6 hf6 hth6 hA6 hB6 hT6 hC6 hmu_6 H locs ls V hl
      refine lv_iload hx hb dX8_goes_6 (lv_at hl 0 rfl) ?_
      refine lv_aload_n hx hb dX8_goes_8 rfl (lv_at hl 2 rfl) ?_
      refine g_get hC V (ci := 8) uwX8 0 rfl rfl 1 (by decide) w_913 rfl rfl dX8_goes_9 ?_
      refine lv_iconst (v := (nI 0)) hx hb dX8_goes_12 (by decide +kernel) ?_
      refine g_iald hC V 1 rfl (vp_in_nI (by decide) (by decide)) (v := (nI n)) (by rw [nI_clamp (by decide)]; first | rfl | exact h_a.2.1 | exact hf6.1.2.1 | exact hf100.1.2.1) dX8_goes_13 ?_
      refine lv_icmp_ge (tgt := 97) hx hb dX8_goes_14 (by decide) (fun c_2 => ?_) (fun c_2 => ?_)
      · skip
        have c_2 := b_le (by omega) (by omega) c_2
        have hth : ∀ i, i < n → bd (th6 i) 201 := fun i h => hth6 i (by omega)
        have hTn : ∀ i, i < n → th6 i = hNw n fa pl fi mr i := fun i h => hT6 i (by omega)
        refine lv_iconst (v := (nI 0)) hx hb dX8_goes_97 (by decide +kernel) ?_
        refine lv_istore (lv' := [(6, .int (nI 0)), (5, .int x5), (0, .ref o), (1, .int pl), (2, .int sk), (3, .int fi), (4, .int mr)]) hx hb dX8_goes_98 hl (by decide) rfl (fun ls hl => ?_)
        have L_3 : ∀ (fu : Nat) (k100 : Nat) (bv : Int32) (f100 : Nat → Int32), k100 ≤ n → MS n fa f100 → f100 = md n fa pl sk fi mr k100 → bv = w16 + goB n fa pl sk fi mr k100 → n - k100 < fu → ∀ (H : Heap) (locs : List Loc) (ls : Array Slot), gW D T A s [(o, .inr (8, [.int w0, .ref g1, .ref g2, .ref g3, .ref g4, .int (nI tp), .int w6, .int w7, .int w8, .int w9, .int w10, .int w11, .int w12, .int w13, .int w14, .ref g15, .int bv, .ref g17, .int w18, .int w19, .ref g20, .int w21, .ref g22, .ref g23, .ref g24, .int w25, .int w26, .int w27, .ref g28, .ref g29, .int w30, .ref g31, .ref g32, .ref g33])), (g1, .inl (T 0, 282, .inl f100)), (g15, .inl (T 0, 10, .inl th6))] H locs → lv_has ls 7 [(6, .int (nI k100)), (5, .int x5), (0, .ref o), (1, .int pl), (2, .int sk), (3, .int fi), (4, .int mr)] → W p l e (rmD 2 0 0) s m args below meth c H locs 0 0 (MQ below (gQ D A (q_m_goes_f T n o pl sk fi mr w0 g1 g2 g3 g4 tp w6 w7 w8 w9 w10 w11 w12 w13 w14 g15 w16 g17 w18 w19 g20 w21 g22 g23 g24 w25 w26 w27 g28 g29 w30 g31 g32 g33 fa fh)) args s 0 0 A) (F0 m 100 ls []) := by
          intro fu_100
          induction fu_100 with
          | zero => intro k100 bv f100 hk100 hf100 hM hbv hmu; exact absurd hmu (Nat.not_lt_zero _)
          | succ fu_100 ih_100 =>
            intro k100 bv f100 hk100 hf100 hM hbv hmu_100 H locs ls V hl
            refine lv_iload hx hb dX8_goes_100 (lv_at hl 0 rfl) ?_
            refine lv_aload_n hx hb dX8_goes_102 rfl (lv_at hl 2 rfl) ?_
            refine g_get hC V (ci := 8) uwX8 0 rfl rfl 1 (by decide) w_913 rfl rfl dX8_goes_103 ?_
            refine lv_iconst (v := (nI 0)) hx hb dX8_goes_106 (by decide +kernel) ?_
            refine g_iald hC V 1 rfl (vp_in_nI (by decide) (by decide)) (v := (nI n)) (by rw [nI_clamp (by decide)]; first | rfl | exact h_a.2.1 | exact hf6.1.2.1 | exact hf100.1.2.1) dX8_goes_107 ?_
            refine lv_icmp_ge (tgt := 253) hx hb dX8_goes_108 (by decide) (fun c_4 => ?_) (fun c_4 => ?_)
            · skip
              have c_4 := b_le (by omega) (by omega) c_4
              refine lv_aload_n hx hb dX8_goes_253 rfl (lv_at hl 2 rfl) ?_
              refine g_get hC V (ci := 8) uwX8 0 rfl rfl 1 (by decide) w_913 rfl rfl dX8_goes_254 ?_
              refine lv_iconst (v := (nI 1)) hx hb dX8_goes_257 (by decide +kernel) ?_
              refine lv_dup2_11 hx hb dX8_goes_258 rfl rfl ?_
              refine g_iald hC V 1 rfl (vp_in_nI (by decide) (by decide)) (v := (f100 1)) (congrArg _ (nI_clamp (by decide))) dX8_goes_259 ?_
              refine lv_iconst (v := (nI 1)) hx hb dX8_goes_260 (by decide +kernel) ?_
              refine lv_iadd hx hb dX8_goes_261 ?_
              obtain ⟨f_5, ef_5⟩ : ∃ x, x = upd f100 1 ((f100 1) + (nI 1)) := ⟨_, rfl⟩
              have hf_5 : MS n fa f_5 := by rw [ef_5]; exact ms_st (by assumption) (by omega) (by omega) (by intros; first | (exfalso; omega) | assumption) (by intros; first | (exfalso; omega) | assumption) (by intros; first | (exfalso; omega) | assumption) (by intros; first | (exfalso; omega) | assumption) (by intros; first | (exfalso; omega) | assumption) (by intros; first | (exfalso; omega) | assumption) (by intros; first | (exfalso; omega) | assumption)
              refine g_iast hC V 1 rfl (vp_in_nI (by decide) (by decide)) (f' := f_5) (by rw [nI_clamp (by omega)]; exact ef_5.symm) (ws' := [(o, .inr (8, [.int w0, .ref g1, .ref g2, .ref g3, .ref g4, .int (nI tp), .int w6, .int w7, .int w8, .int w9, .int w10, .int w11, .int w12, .int w13, .int w14, .ref g15, .int bv, .ref g17, .int w18, .int w19, .ref g20, .int w21, .ref g22, .ref g23, .ref g24, .int w25, .int w26, .int w27, .ref g28, .ref g29, .int w30, .ref g31, .ref g32, .ref g33])), (g1, .inl (T 0, 282, .inl f_5)), (g15, .inl (T 0, 10, .inl th6))]) rfl dX8_goes_262 (fun H locs V => ?_)
              refine lv_iload hx hb dX8_goes_263 (lv_at hl 1 rfl) ?_
              exact g_iret (Qr := (q_m_goes_f T n o pl sk fi mr w0 g1 g2 g3 g4 tp w6 w7 w8 w9 w10 w11 w12 w13 w14 g15 w16 g17 w18 w19 g20 w21 g22 g23 g24 w25 w26 w27 g28 g29 w30 g31 g32 g33 fa fh)) hC V ⟨(Nat.le_of_ble_eq_true rfl), (Nat.le_of_ble_eq_true rfl)⟩ ⟨x5, bv, f_5, th6, rfl, rfl, (by assumption), (by rw [hC6]; congr 1; omega), (go_end hn10 hM (by omega) ef_5), (by rw [hbv]; congr 2; omega)⟩ dX8_goes_265
            · skip
              have c_4 := b_nle (by omega) (by omega) c_4
              refine lv_aload_n hx hb dX8_goes_111 rfl (lv_at hl 2 rfl) ?_
              refine g_get hC V (ci := 8) uwX8 0 rfl rfl 1 (by decide) w_913 rfl rfl dX8_goes_112 ?_
              refine lv_bipush (v := (nI 24)) hx hb dX8_goes_115 (by decide +kernel) ?_
              refine lv_iload hx hb dX8_goes_117 (lv_at hl 0 rfl) ?_
              refine lv_iadd hx hb dX8_goes_119 ?_
              refine g_vi (y := (nI (24 + k100))) (nI_add _ _) ?_
              refine lv_aload_n hx hb dX8_goes_120 rfl (lv_at hl 2 rfl) ?_
              refine g_get hC V (ci := 8) uwX8 0 rfl rfl 15 (by decide) w_927 rfl rfl dX8_goes_121 ?_
              refine lv_iload hx hb dX8_goes_124 (lv_at hl 0 rfl) ?_
              obtain ⟨j_6, hj_6, ej_6⟩ := bd_ex (hth k100 (by omega))
              refine g_iald hC V 2 rfl (vp_in_nI (by omega) (by omega)) (v := (nI j_6)) (by rw [nI_clamp (by omega)]; exact ej_6) dX8_goes_126 ?_
              obtain ⟨f_7, ef_7⟩ : ∃ x, x = upd f100 (24 + k100) (nI j_6) := ⟨_, rfl⟩
              have hf_7 : MS n fa f_7 := by rw [ef_7]; exact ms_st (by assumption) (by omega) (by omega) (by intros; first | (exfalso; omega) | exact bd_nI (by omega) | exact bd_le ‹bd (nI j_6) _› (by omega) | assumption) (by intros; first | (exfalso; omega) | exact bd_nI (by omega) | exact bd_le ‹bd (nI j_6) _› (by omega) | assumption) (by intros; first | (exfalso; omega) | exact bd_nI (by omega) | exact bd_le ‹bd (nI j_6) _› (by omega) | assumption) (by intros; first | (exfalso; omega) | exact bd_nI (by omega) | exact bd_le ‹bd (nI j_6) _› (by omega) | assumption) (by intros; first | (exfalso; omega) | exact bd_nI (by omega) | exact bd_le ‹bd (nI j_6) _› (by omega) | assumption) (by intros; first | (exfalso; omega) | exact bd_nI (by omega) | exact bd_le ‹bd (nI j_6) _› (by omega) | assumption) (by intros; first | (exfalso; omega) | exact bd_nI (by omega) | exact bd_le ‹bd (nI j_6) _› (by omega) | assumption)
              refine g_iast hC V 1 rfl (vp_in_nI (by omega) (by omega)) (f' := f_7) (by rw [nI_clamp (by omega)]; exact ef_7.symm) (ws' := [(o, .inr (8, [.int w0, .ref g1, .ref g2, .ref g3, .ref g4, .int (nI tp), .int w6, .int w7, .int w8, .int w9, .int w10, .int w11, .int w12, .int w13, .int w14, .ref g15, .int bv, .ref g17, .int w18, .int w19, .ref g20, .int w21, .ref g22, .ref g23, .ref g24, .int w25, .int w26, .int w27, .ref g28, .ref g29, .int w30, .ref g31, .ref g32, .ref g33])), (g1, .inl (T 0, 282, .inl f_7)), (g15, .inl (T 0, 10, .inl th6))]) rfl dX8_goes_127 (fun H locs V => ?_)
              have eA : f_7 = upd (md n fa pl sk fi mr k100) (24 + k100) (nI j_6) := by rw [ef_7, hM]
              have hxA : nI j_6 = hNw n fa pl fi mr k100 := ej_6.symm.trans (hTn _ (by omega))
              refine lv_aload_n hx hb dX8_goes_128 rfl (lv_at hl 2 rfl) ?_
              refine lv_iload hx hb dX8_goes_129 (lv_at hl 0 rfl) ?_
              refine g_callVU (nA := 1) hC V hl.1 (m_isDone l D T o k100 w0 g1 g2 g3 g4 tp w6 w7 w8 w9 w10 w11 w12 w13 w14 g15 bv g17 w18 w19 g20 w21 g22 g23 g24 w25 w26 w27 g28 g29 w30 g31 g32 g33 f_7 (by first | assumption | omega)) w_1088 w_1090 w_s47 w_9 w_1091 (by decide +kernel) rfl ⟨(Nat.le_of_ble_eq_true rfl), (Nat.le_of_ble_eq_true rfl)⟩ 0 (ci := 8) rfl rfl [0, 1] rfl rfl (Nat.le_of_ble_eq_true rfl) dX8_goes_131 ⟨(Nat.le_of_ble_eq_true rfl), (Nat.le_of_ble_eq_true rfl)⟩ rfl (fun r w1 H locs hQ V => ?_)
              rcases hQ with ⟨rfl, rfl, f_8⟩ | ⟨rfl, rfl, f_9⟩
              · have V : gW D T A s [(o, .inr (8, [.int w0, .ref g1, .ref g2, .ref g3, .ref g4, .int (nI tp), .int w6, .int w7, .int w8, .int w9, .int w10, .int w11, .int w12, .int w13, .int w14, .ref g15, .int bv, .ref g17, .int w18, .int w19, .ref g20, .int w21, .ref g22, .ref g23, .ref g24, .int w25, .int w26, .int w27, .ref g28, .ref g29, .int w30, .ref g31, .ref g32, .ref g33])), (g1, .inl (T 0, 282, .inl f_7)), (g15, .inl (T 0, 10, .inl th6))] H locs := V _ [0, 0] rfl rfl rfl (by decide +kernel) rfl
                show W p l e _ s m args below meth c H locs _ _ _ (F0 m 134 ls [.int (nI 1)])
                refine lv_if_ne (tgt := 247) hx hb dX8_goes_134 (by decide) (fun _ => ?_) (fun c => absurd (show (nI 1) = 0 from c) (by decide +kernel))
                refine lv_iinc (v := (nI (k100 + 1))) (lv' := [(6, .int (nI (k100 + 1))), (5, .int x5), (0, .ref o), (1, .int pl), (2, .int sk), (3, .int fi), (4, .int mr)]) hx hb dX8_goes_247 hl (k := 0) rfl (nI_1 _) (by decide) rfl (fun ls hl => ?_)
                refine lv_goto (tgt := 100) hx hb dX8_goes_250 (by decide) ?_
                exact ih_100 (k100 + 1) bv f_7 (by omega) (by assumption) (mdn_y hn10 (by omega) eA hxA (bur_1 hn10 (by omega) eA f_8)) (by rw [hbv]; exact congrArg _ (gBB_n (bur_1 hn10 (by omega) eA f_8))) (by omega) _ _ _ V (lv_sub hl [0, 1, 2, 3, 4, 5, 6] rfl)
              · have V : gW D T A s [(o, .inr (8, [.int w0, .ref g1, .ref g2, .ref g3, .ref g4, .int (nI tp), .int w6, .int w7, .int w8, .int w9, .int w10, .int w11, .int w12, .int w13, .int w14, .ref g15, .int bv, .ref g17, .int w18, .int w19, .ref g20, .int w21, .ref g22, .ref g23, .ref g24, .int w25, .int w26, .int w27, .ref g28, .ref g29, .int w30, .ref g31, .ref g32, .ref g33])), (g1, .inl (T 0, 282, .inl f_7)), (g15, .inl (T 0, 10, .inl th6))] H locs := V _ [0, 0] rfl rfl rfl (by decide +kernel) rfl
                show W p l e _ s m args below meth c H locs _ _ _ (F0 m 134 ls [.int (nI 0)])
                refine lv_if_ne (tgt := 247) hx hb dX8_goes_134 (by decide) (fun c => absurd (show (nI 0) = 0 by decide +kernel) c) (fun _ => ?_)
                refine lv_aload_n hx hb dX8_goes_137 rfl (lv_at hl 2 rfl) ?_
                refine g_get hC V (ci := 8) uwX8 0 rfl rfl 1 (by decide) w_913 rfl rfl dX8_goes_138 ?_
                refine lv_bipush (v := (nI 64)) hx hb dX8_goes_141 (by decide +kernel) ?_
                refine lv_iload hx hb dX8_goes_143 (lv_at hl 0 rfl) ?_
                refine lv_iadd hx hb dX8_goes_145 ?_
                refine g_vi (y := (nI (64 + k100))) (nI_add _ _) ?_
                obtain ⟨j_10, hj_10, ej_10⟩ := bd_ex (mi_has hf_7.1 (i := k100) (by omega))
                refine g_iald hC V 1 rfl (vp_in_nI (by omega) (by omega)) (v := (nI j_10)) (by rw [nI_clamp (by omega)]; exact ej_10) dX8_goes_146 ?_
                refine lv_if_eq (tgt := 247) hx hb dX8_goes_147 (by decide) (fun c_11 => ?_) (fun c_11 => ?_)
                · skip
                  rw [show (0 : Int32) = nI 0 from rfl] at c_11
                  have c_11 := b_eq (by omega) (by omega) c_11
                  refine lv_iinc (v := (nI (k100 + 1))) (lv' := [(6, .int (nI (k100 + 1))), (5, .int x5), (0, .ref o), (1, .int pl), (2, .int sk), (3, .int fi), (4, .int mr)]) hx hb dX8_goes_247 hl (k := 0) rfl (nI_1 _) (by decide) rfl (fun ls hl => ?_)
                  refine lv_goto (tgt := 100) hx hb dX8_goes_250 (by decide) ?_
                  exact ih_100 (k100 + 1) bv f_7 (by omega) (by assumption) (mdn_y hn10 (by omega) eA hxA (bur_2 hn10 (by omega) eA (by rw [ej_10, c_11]; exact z_dec))) (by rw [hbv]; exact congrArg _ (gBB_n (bur_2 hn10 (by omega) eA (by rw [ej_10, c_11]; exact z_dec)))) (by omega) _ _ _ V (lv_sub hl [0, 1, 2, 3, 4, 5, 6] rfl)
                · skip
                  rw [show (0 : Int32) = nI 0 from rfl] at c_11
                  have c_11 := b_ne (by omega) (by omega) c_11
                  refine lv_aload_n hx hb dX8_goes_150 rfl (lv_at hl 2 rfl) ?_
                  refine g_get hC V (ci := 8) uwX8 0 rfl rfl 15 (by decide) w_927 rfl rfl dX8_goes_151 ?_
                  refine lv_iload hx hb dX8_goes_154 (lv_at hl 0 rfl) ?_
                  refine g_iald hC V 2 rfl (vp_in_nI (by omega) (by omega)) (v := (nI j_6)) (by rw [nI_clamp (by omega)]; exact ej_6) dX8_goes_156 ?_
                  refine lv_aload_n hx hb dX8_goes_157 rfl (lv_at hl 2 rfl) ?_
                  refine g_get hC V (ci := 8) uwX8 0 rfl rfl 1 (by decide) w_913 rfl rfl dX8_goes_158 ?_
                  refine lv_bipush (v := (nI 44)) hx hb dX8_goes_161 (by decide +kernel) ?_
                  refine lv_iload hx hb dX8_goes_163 (lv_at hl 0 rfl) ?_
                  refine lv_iadd hx hb dX8_goes_165 ?_
                  refine g_vi (y := (nI (44 + k100))) (nI_add _ _) ?_
                  refine g_iald hC V 1 rfl (vp_in_nI (by omega) (by omega)) (v := (f_7 (44 + k100))) (congrArg _ (nI_clamp (by omega))) dX8_goes_166 ?_
                  refine lv_icmp_gt (tgt := 173) hx hb dX8_goes_167 (by decide) (fun c_12 => ?_) (fun c_12 => ?_)
                  · skip
                    have hbu := bur_y hn10 (by omega) eA hxA f_9 (fun q => by have := b_eq (by omega) (by decide) ((ej_10.symm.trans q).trans z_dec.symm); omega) c_12
                    refine lv_aload_n hx hb dX8_goes_173 rfl (lv_at hl 2 rfl) ?_
                    refine g_get hC V (ci := 8) uwX8 0 rfl rfl 1 (by decide) w_913 rfl rfl dX8_goes_174 ?_
                    refine lv_bipush (v := (nI 64)) hx hb dX8_goes_177 (by decide +kernel) ?_
                    refine lv_iload hx hb dX8_goes_179 (lv_at hl 0 rfl) ?_
                    refine lv_iadd hx hb dX8_goes_181 ?_
                    refine g_vi (y := (nI (64 + k100))) (nI_add _ _) ?_
                    refine lv_aload_n hx hb dX8_goes_182 rfl (lv_at hl 2 rfl) ?_
                    refine g_get hC V (ci := 8) uwX8 0 rfl rfl 1 (by decide) w_913 rfl rfl dX8_goes_183 ?_
                    refine lv_bipush (v := (nI 64)) hx hb dX8_goes_186 (by decide +kernel) ?_
                    refine lv_iload hx hb dX8_goes_188 (lv_at hl 0 rfl) ?_
                    refine lv_iadd hx hb dX8_goes_190 ?_
                    refine g_vi (y := (nI (64 + k100))) (nI_add _ _) ?_
                    refine g_iald hC V 1 rfl (vp_in_nI (by omega) (by omega)) (v := (nI j_10)) (by rw [nI_clamp (by omega)]; exact ej_10) dX8_goes_191 ?_
                    refine lv_aload_n hx hb dX8_goes_192 rfl (lv_at hl 2 rfl) ?_
                    refine g_get hC V (ci := 8) uwX8 0 rfl rfl 1 (by decide) w_913 rfl rfl dX8_goes_193 ?_
                    refine lv_iconst (v := (nI 2)) hx hb dX8_goes_196 (by decide +kernel) ?_
                    obtain ⟨j_13, hj_13, ej_13⟩ := bd_ex (mi_lost hf_7.1)
                    refine g_iald hC V 1 rfl (vp_in_nI (by decide) (by decide)) (v := (nI j_13)) (by rw [nI_clamp (by omega)]; exact ej_13) dX8_goes_197 ?_
                    refine lv_icmp_le (tgt := 221) hx hb dX8_goes_198 (by decide) (fun c_14 => ?_) (fun c_14 => ?_)
                    · skip
                      have c_14 := b_le (by omega) (by omega) c_14
                      refine lv_iconst (v := (nI 0)) hx hb dX8_goes_221 (by decide +kernel) ?_
                      obtain ⟨f_15, ef_15⟩ : ∃ x, x = upd f_7 (64 + k100) (nI 0) := ⟨_, rfl⟩
                      have hf_15 : MS n fa f_15 := by rw [ef_15]; exact ms_st (by assumption) (by omega) (by omega) (by intros; first | (exfalso; omega) | exact bd_nI (by omega) | exact bd_le ‹bd (nI 0) _› (by omega) | assumption) (by intros; first | (exfalso; omega) | exact bd_nI (by omega) | exact bd_le ‹bd (nI 0) _› (by omega) | assumption) (by intros; first | (exfalso; omega) | exact bd_nI (by omega) | exact bd_le ‹bd (nI 0) _› (by omega) | assumption) (by intros; first | (exfalso; omega) | exact bd_nI (by omega) | exact bd_le ‹bd (nI 0) _› (by omega) | assumption) (by intros; first | (exfalso; omega) | exact bd_nI (by omega) | exact bd_le ‹bd (nI 0) _› (by omega) | assumption) (by intros; first | (exfalso; omega) | exact bd_nI (by omega) | exact bd_le ‹bd (nI 0) _› (by omega) | assumption) (by intros; first | (exfalso; omega) | exact bd_nI (by omega) | exact bd_le ‹bd (nI 0) _› (by omega) | assumption)
                      refine g_iast hC V 1 rfl (vp_in_nI (by omega) (by omega)) (f' := f_15) (by rw [nI_clamp (by omega)]; exact ef_15.symm) (ws' := [(o, .inr (8, [.int w0, .ref g1, .ref g2, .ref g3, .ref g4, .int (nI tp), .int w6, .int w7, .int w8, .int w9, .int w10, .int w11, .int w12, .int w13, .int w14, .ref g15, .int bv, .ref g17, .int w18, .int w19, .ref g20, .int w21, .ref g22, .ref g23, .ref g24, .int w25, .int w26, .int w27, .ref g28, .ref g29, .int w30, .ref g31, .ref g32, .ref g33])), (g1, .inl (T 0, 282, .inl f_15)), (g15, .inl (T 0, 10, .inl th6))]) rfl dX8_goes_222 (fun H locs V => ?_)
                      refine lv_aload_n hx hb dX8_goes_223 rfl (lv_at hl 2 rfl) ?_
                      refine g_get hC V (ci := 8) uwX8 0 rfl rfl 1 (by decide) w_913 rfl rfl dX8_goes_224 ?_
                      refine lv_bipush (v := (nI 74)) hx hb dX8_goes_227 (by decide +kernel) ?_
                      refine lv_iload hx hb dX8_goes_229 (lv_at hl 0 rfl) ?_
                      refine lv_iadd hx hb dX8_goes_231 ?_
                      refine g_vi (y := (nI (74 + k100))) (nI_add _ _) ?_
                      refine lv_dup2_11 hx hb dX8_goes_232 rfl rfl ?_
                      refine g_iald hC V 1 rfl (vp_in_nI (by omega) (by omega)) (v := (f_15 (74 + k100))) (congrArg _ (nI_clamp (by omega))) dX8_goes_233 ?_
                      refine lv_iconst (v := (nI 1)) hx hb dX8_goes_234 (by decide +kernel) ?_
                      refine lv_iadd hx hb dX8_goes_235 ?_
                      obtain ⟨f_16, ef_16⟩ : ∃ x, x = upd f_15 (74 + k100) ((f_15 (74 + k100)) + (nI 1)) := ⟨_, rfl⟩
                      have hf_16 : MS n fa f_16 := by rw [ef_16]; exact ms_st (by assumption) (by omega) (by omega) (by intros; first | (exfalso; omega) | assumption) (by intros; first | (exfalso; omega) | assumption) (by intros; first | (exfalso; omega) | assumption) (by intros; first | (exfalso; omega) | assumption) (by intros; first | (exfalso; omega) | assumption) (by intros; first | (exfalso; omega) | assumption) (by intros; first | (exfalso; omega) | assumption)
                      refine g_iast hC V 1 rfl (vp_in_nI (by omega) (by omega)) (f' := f_16) (by rw [nI_clamp (by omega)]; exact ef_16.symm) (ws' := [(o, .inr (8, [.int w0, .ref g1, .ref g2, .ref g3, .ref g4, .int (nI tp), .int w6, .int w7, .int w8, .int w9, .int w10, .int w11, .int w12, .int w13, .int w14, .ref g15, .int bv, .ref g17, .int w18, .int w19, .ref g20, .int w21, .ref g22, .ref g23, .ref g24, .int w25, .int w26, .int w27, .ref g28, .ref g29, .int w30, .ref g31, .ref g32, .ref g33])), (g1, .inl (T 0, 282, .inl f_16)), (g15, .inl (T 0, 10, .inl th6))]) rfl dX8_goes_236 (fun H locs V => ?_)
                      refine lv_aload_n hx hb dX8_goes_237 rfl (lv_at hl 2 rfl) ?_
                      refine lv_dup hx hb dX8_goes_238 rfl ?_
                      refine g_get hC V (ci := 8) uwX8 0 rfl rfl 16 (by decide) w_928 rfl rfl dX8_goes_239 ?_
                      refine lv_iconst (v := (nI 1)) hx hb dX8_goes_242 (by decide +kernel) ?_
                      refine lv_iadd hx hb dX8_goes_243 ?_
                      refine g_put hC V (ci := 8) uwX8 tyX8 tyX8_ok nmX8 0 rfl rfl 16 (by decide) w_928 rfl rfl rfl rfl (Nat.le_of_ble_eq_true rfl) (ws' := [(o, .inr (8, [.int w0, .ref g1, .ref g2, .ref g3, .ref g4, .int (nI tp), .int w6, .int w7, .int w8, .int w9, .int w10, .int w11, .int w12, .int w13, .int w14, .ref g15, .int (bv + (nI 1)), .ref g17, .int w18, .int w19, .ref g20, .int w21, .ref g22, .ref g23, .ref g24, .int w25, .int w26, .int w27, .ref g28, .ref g29, .int w30, .ref g31, .ref g32, .ref g33])), (g1, .inl (T 0, 282, .inl f_16)), (g15, .inl (T 0, 10, .inl th6))]) rfl dX8_goes_244 (fun H locs V => ?_)
                      refine lv_iinc (v := (nI (k100 + 1))) (lv' := [(6, .int (nI (k100 + 1))), (5, .int x5), (0, .ref o), (1, .int pl), (2, .int sk), (3, .int fi), (4, .int mr)]) hx hb dX8_goes_247 hl (k := 0) rfl (nI_1 _) (by decide) rfl (fun ls hl => ?_)
                      refine lv_goto (tgt := 100) hx hb dX8_goes_250 (by decide) ?_
                      exact ih_100 (k100 + 1) (bv + (nI 1)) f_16 (by omega) (by assumption) (md_yy hn10 (by omega) eA hxA ef_15 ef_16 (bv_n hn10 (by omega) eA ej_10 ej_13 (by omega) (by omega)) hbu) (by rw [hbv]; exact gBB_y hbu) (by omega) _ _ _ V (lv_sub hl [0, 1, 2, 3, 4, 5, 6] rfl)
                    · skip
                      have c_14 := b_nle (by omega) (by omega) c_14
                      refine lv_aload_n hx hb dX8_goes_201 rfl (lv_at hl 2 rfl) ?_
                      refine g_get hC V (ci := 8) uwX8 0 rfl rfl 1 (by decide) w_913 rfl rfl dX8_goes_202 ?_
                      refine lv_bipush (v := (nI 64)) hx hb dX8_goes_205 (by decide +kernel) ?_
                      refine lv_iload hx hb dX8_goes_207 (lv_at hl 0 rfl) ?_
                      refine lv_iadd hx hb dX8_goes_209 ?_
                      refine g_vi (y := (nI (64 + k100))) (nI_add _ _) ?_
                      refine g_iald hC V 1 rfl (vp_in_nI (by omega) (by omega)) (v := (nI j_10)) (by rw [nI_clamp (by omega)]; exact ej_10) dX8_goes_210 ?_
                      refine lv_aload_n hx hb dX8_goes_211 rfl (lv_at hl 2 rfl) ?_
                      refine g_get hC V (ci := 8) uwX8 0 rfl rfl 1 (by decide) w_913 rfl rfl dX8_goes_212 ?_
                      refine lv_iconst (v := (nI 2)) hx hb dX8_goes_215 (by decide +kernel) ?_
                      refine g_iald hC V 1 rfl (vp_in_nI (by decide) (by decide)) (v := (nI j_13)) (by rw [nI_clamp (by omega)]; exact ej_13) dX8_goes_216 ?_
                      refine lv_isub hx hb dX8_goes_217 ?_
                      refine g_vi (y := (nI (j_10 - j_13))) (nI_sub (by omega)) ?_
                      refine lv_goto (tgt := 222) hx hb dX8_goes_218 (by decide) ?_
                      obtain ⟨f_17, ef_17⟩ : ∃ x, x = upd f_7 (64 + k100) (nI (j_10 - j_13)) := ⟨_, rfl⟩
                      have hf_17 : MS n fa f_17 := by rw [ef_17]; exact ms_st (by assumption) (by omega) (by omega) (by intros; first | (exfalso; omega) | exact bd_nI (by omega) | exact bd_le ‹bd (nI (j_10 - j_13)) _› (by omega) | assumption) (by intros; first | (exfalso; omega) | exact bd_nI (by omega) | exact bd_le ‹bd (nI (j_10 - j_13)) _› (by omega) | assumption) (by intros; first | (exfalso; omega) | exact bd_nI (by omega) | exact bd_le ‹bd (nI (j_10 - j_13)) _› (by omega) | assumption) (by intros; first | (exfalso; omega) | exact bd_nI (by omega) | exact bd_le ‹bd (nI (j_10 - j_13)) _› (by omega) | assumption) (by intros; first | (exfalso; omega) | exact bd_nI (by omega) | exact bd_le ‹bd (nI (j_10 - j_13)) _› (by omega) | assumption) (by intros; first | (exfalso; omega) | exact bd_nI (by omega) | exact bd_le ‹bd (nI (j_10 - j_13)) _› (by omega) | assumption) (by intros; first | (exfalso; omega) | exact bd_nI (by omega) | exact bd_le ‹bd (nI (j_10 - j_13)) _› (by omega) | assumption)
                      refine g_iast hC V 1 rfl (vp_in_nI (by omega) (by omega)) (f' := f_17) (by rw [nI_clamp (by omega)]; exact ef_17.symm) (ws' := [(o, .inr (8, [.int w0, .ref g1, .ref g2, .ref g3, .ref g4, .int (nI tp), .int w6, .int w7, .int w8, .int w9, .int w10, .int w11, .int w12, .int w13, .int w14, .ref g15, .int bv, .ref g17, .int w18, .int w19, .ref g20, .int w21, .ref g22, .ref g23, .ref g24, .int w25, .int w26, .int w27, .ref g28, .ref g29, .int w30, .ref g31, .ref g32, .ref g33])), (g1, .inl (T 0, 282, .inl f_17)), (g15, .inl (T 0, 10, .inl th6))]) rfl dX8_goes_222 (fun H locs V => ?_)
                      refine lv_aload_n hx hb dX8_goes_223 rfl (lv_at hl 2 rfl) ?_
                      refine g_get hC V (ci := 8) uwX8 0 rfl rfl 1 (by decide) w_913 rfl rfl dX8_goes_224 ?_
                      refine lv_bipush (v := (nI 74)) hx hb dX8_goes_227 (by decide +kernel) ?_
                      refine lv_iload hx hb dX8_goes_229 (lv_at hl 0 rfl) ?_
                      refine lv_iadd hx hb dX8_goes_231 ?_
                      refine g_vi (y := (nI (74 + k100))) (nI_add _ _) ?_
                      refine lv_dup2_11 hx hb dX8_goes_232 rfl rfl ?_
                      refine g_iald hC V 1 rfl (vp_in_nI (by omega) (by omega)) (v := (f_17 (74 + k100))) (congrArg _ (nI_clamp (by omega))) dX8_goes_233 ?_
                      refine lv_iconst (v := (nI 1)) hx hb dX8_goes_234 (by decide +kernel) ?_
                      refine lv_iadd hx hb dX8_goes_235 ?_
                      obtain ⟨f_18, ef_18⟩ : ∃ x, x = upd f_17 (74 + k100) ((f_17 (74 + k100)) + (nI 1)) := ⟨_, rfl⟩
                      have hf_18 : MS n fa f_18 := by rw [ef_18]; exact ms_st (by assumption) (by omega) (by omega) (by intros; first | (exfalso; omega) | assumption) (by intros; first | (exfalso; omega) | assumption) (by intros; first | (exfalso; omega) | assumption) (by intros; first | (exfalso; omega) | assumption) (by intros; first | (exfalso; omega) | assumption) (by intros; first | (exfalso; omega) | assumption) (by intros; first | (exfalso; omega) | assumption)
                      refine g_iast hC V 1 rfl (vp_in_nI (by omega) (by omega)) (f' := f_18) (by rw [nI_clamp (by omega)]; exact ef_18.symm) (ws' := [(o, .inr (8, [.int w0, .ref g1, .ref g2, .ref g3, .ref g4, .int (nI tp), .int w6, .int w7, .int w8, .int w9, .int w10, .int w11, .int w12, .int w13, .int w14, .ref g15, .int bv, .ref g17, .int w18, .int w19, .ref g20, .int w21, .ref g22, .ref g23, .ref g24, .int w25, .int w26, .int w27, .ref g28, .ref g29, .int w30, .ref g31, .ref g32, .ref g33])), (g1, .inl (T 0, 282, .inl f_18)), (g15, .inl (T 0, 10, .inl th6))]) rfl dX8_goes_236 (fun H locs V => ?_)
                      refine lv_aload_n hx hb dX8_goes_237 rfl (lv_at hl 2 rfl) ?_
                      refine lv_dup hx hb dX8_goes_238 rfl ?_
                      refine g_get hC V (ci := 8) uwX8 0 rfl rfl 16 (by decide) w_928 rfl rfl dX8_goes_239 ?_
                      refine lv_iconst (v := (nI 1)) hx hb dX8_goes_242 (by decide +kernel) ?_
                      refine lv_iadd hx hb dX8_goes_243 ?_
                      refine g_put hC V (ci := 8) uwX8 tyX8 tyX8_ok nmX8 0 rfl rfl 16 (by decide) w_928 rfl rfl rfl rfl (Nat.le_of_ble_eq_true rfl) (ws' := [(o, .inr (8, [.int w0, .ref g1, .ref g2, .ref g3, .ref g4, .int (nI tp), .int w6, .int w7, .int w8, .int w9, .int w10, .int w11, .int w12, .int w13, .int w14, .ref g15, .int (bv + (nI 1)), .ref g17, .int w18, .int w19, .ref g20, .int w21, .ref g22, .ref g23, .ref g24, .int w25, .int w26, .int w27, .ref g28, .ref g29, .int w30, .ref g31, .ref g32, .ref g33])), (g1, .inl (T 0, 282, .inl f_18)), (g15, .inl (T 0, 10, .inl th6))]) rfl dX8_goes_244 (fun H locs V => ?_)
                      refine lv_iinc (v := (nI (k100 + 1))) (lv' := [(6, .int (nI (k100 + 1))), (5, .int x5), (0, .ref o), (1, .int pl), (2, .int sk), (3, .int fi), (4, .int mr)]) hx hb dX8_goes_247 hl (k := 0) rfl (nI_1 _) (by decide) rfl (fun ls hl => ?_)
                      refine lv_goto (tgt := 100) hx hb dX8_goes_250 (by decide) ?_
                      exact ih_100 (k100 + 1) (bv + (nI 1)) f_18 (by omega) (by assumption) (md_yy hn10 (by omega) eA hxA ef_17 ef_18 (bv_y hn10 (by omega) eA ej_10 ej_13 (by omega) (by omega)) hbu) (by rw [hbv]; exact gBB_y hbu) (by omega) _ _ _ V (lv_sub hl [0, 1, 2, 3, 4, 5, 6] rfl)
                  · skip
                    refine lv_goto (tgt := 247) hx hb dX8_goes_170 (by decide) ?_
                    refine lv_iinc (v := (nI (k100 + 1))) (lv' := [(6, .int (nI (k100 + 1))), (5, .int x5), (0, .ref o), (1, .int pl), (2, .int sk), (3, .int fi), (4, .int mr)]) hx hb dX8_goes_247 hl (k := 0) rfl (nI_1 _) (by decide) rfl (fun ls hl => ?_)
                    refine lv_goto (tgt := 100) hx hb dX8_goes_250 (by decide) ?_
                    exact ih_100 (k100 + 1) bv f_7 (by omega) (by assumption) (mdn_y hn10 (by omega) eA hxA (bur_3 hn10 (by omega) eA hxA c_12)) (by rw [hbv]; exact congrArg _ (gBB_n (bur_3 hn10 (by omega) eA hxA c_12))) (by omega) _ _ _ V (lv_sub hl [0, 1, 2, 3, 4, 5, 6] rfl)
        exact L_3 _ 0 w16 f6 (by omega) (by assumption) (md_0 hn10 (fun j hj => hA6 j (by omega)) (fun i hi => hB6 i (by omega))) (add_n0 _) (Nat.lt_succ_self _) _ _ _ V (lv_sub hl [0, 1, 2, 3, 4, 5, 6] rfl)
      · skip
        have c_2 := b_nle (by omega) (by omega) c_2
        refine lv_aload_n hx hb dX8_goes_17 rfl (lv_at hl 2 rfl) ?_
        refine g_get hC V (ci := 8) uwX8 0 rfl rfl 15 (by decide) w_927 rfl rfl dX8_goes_18 ?_
        refine lv_iload hx hb dX8_goes_21 (lv_at hl 0 rfl) ?_
        refine lv_aload_n hx hb dX8_goes_23 rfl (lv_at hl 2 rfl) ?_
        refine lv_iload hx hb dX8_goes_24 (lv_at hl 0 rfl) ?_
        refine lv_iload_n hx hb dX8_goes_26 rfl (lv_at hl 3 rfl) ?_
        refine lv_iload hx hb dX8_goes_27 (lv_at hl 0 rfl) ?_
        refine lv_iload_n hx hb dX8_goes_29 rfl (lv_at hl 5 rfl) ?_
        refine lv_icmp_ne (tgt := 38) hx hb dX8_goes_30 (by decide) (fun c_19 => ?_) (fun c_19 => ?_)
        · skip
          refine lv_iconst (v := (nI 0)) hx hb dX8_goes_38 (by decide +kernel) ?_
          refine g_callVU (nA := 3) hC V hl.1 (m_heatThen_f l D T n o k6 pl (nI 0) w0 g1 g2 g3 g4 tp w6 w7 w8 w9 w10 w11 w12 w13 w14 g15 w16 g17 w18 w19 g20 w21 g22 g23 g24 w25 w26 w27 g28 g29 w30 g31 g32 g33 f6 hf6.1 (by first | assumption | omega)) w_1126 w_1128 w_s51 w_9 w_1129 (by decide +kernel) rfl ⟨(Nat.le_of_ble_eq_true rfl), (Nat.le_of_ble_eq_true rfl)⟩ 0 (ci := 8) rfl rfl [0, 1] rfl rfl (Nat.le_of_ble_eq_true rfl) dX8_goes_39 ⟨(Nat.le_of_ble_eq_true rfl), (Nat.le_of_ble_eq_true rfl)⟩ rfl (fun r w1 H locs hQ V => ?_)
          obtain ⟨z_20, rfl, rfl, f_21, f_22⟩ := hQ
          have V : gW D T A s [(o, .inr (8, [.int w0, .ref g1, .ref g2, .ref g3, .ref g4, .int (nI tp), .int w6, .int w7, .int w8, .int w9, .int w10, .int w11, .int w12, .int w13, .int w14, .ref g15, .int w16, .ref g17, .int w18, .int w19, .ref g20, .int w21, .ref g22, .ref g23, .ref g24, .int w25, .int w26, .int w27, .ref g28, .ref g29, .int w30, .ref g31, .ref g32, .ref g33])), (g1, .inl (T 0, 282, .inl f6)), (g15, .inl (T 0, 10, .inl th6))] H locs := V _ [0, 0] rfl rfl rfl (by decide +kernel) rfl
          show W p l e _ s m args below meth c H locs _ _ _ (F0 m 42 ls [.int z_20, .int (nI k6), .ref g15])
          refine g_iast hC V 2 rfl (vp_in_nI (by omega) (by omega)) (f' := (upd th6 k6 z_20)) (by rw [nI_clamp (by omega)]) (ws' := [(o, .inr (8, [.int w0, .ref g1, .ref g2, .ref g3, .ref g4, .int (nI tp), .int w6, .int w7, .int w8, .int w9, .int w10, .int w11, .int w12, .int w13, .int w14, .ref g15, .int w16, .ref g17, .int w18, .int w19, .ref g20, .int w21, .ref g22, .ref g23, .ref g24, .int w25, .int w26, .int w27, .ref g28, .ref g29, .int w30, .ref g31, .ref g32, .ref g33])), (g1, .inl (T 0, 282, .inl f6)), (g15, .inl (T 0, 10, .inl (upd th6 k6 z_20)))]) rfl dX8_goes_42 (fun H locs V => ?_)
          refine lv_iload_n hx hb dX8_goes_43 rfl (lv_at hl 4 rfl) ?_
          refine lv_i2l (v := sk.toInt64) hx hb dX8_goes_44 rfl ?_
          refine lv_iload hx hb dX8_goes_45 (lv_at hl 0 rfl) ?_
          refine g_callSU (nA := 2) hC V hl.1 (m_isIn_f l D T sk k6 (by omega)) w_1130 w_1131 w_9 w_1132 (by decide +kernel) rfl ⟨(Nat.le_of_ble_eq_true rfl), (Nat.le_of_ble_eq_true rfl)⟩ [] rfl rfl (Nat.le_of_ble_eq_true rfl) dX8_goes_47 ⟨(Nat.le_of_ble_eq_true rfl), (Nat.le_of_ble_eq_true rfl)⟩ rfl (fun r w1 H locs hQ V => ?_)
          rcases hQ with ⟨rfl, rfl, f_23⟩ | ⟨rfl, rfl, f_24⟩
          · have V : gW D T A s [(o, .inr (8, [.int w0, .ref g1, .ref g2, .ref g3, .ref g4, .int (nI tp), .int w6, .int w7, .int w8, .int w9, .int w10, .int w11, .int w12, .int w13, .int w14, .ref g15, .int w16, .ref g17, .int w18, .int w19, .ref g20, .int w21, .ref g22, .ref g23, .ref g24, .int w25, .int w26, .int w27, .ref g28, .ref g29, .int w30, .ref g31, .ref g32, .ref g33])), (g1, .inl (T 0, 282, .inl f6)), (g15, .inl (T 0, 10, .inl (upd th6 k6 z_20)))] H locs := V _ [] rfl rfl rfl (by decide +kernel) rfl
            show W p l e _ s m args below meth c H locs _ _ _ (F0 m 50 ls [.int (nI 1)])
            refine lv_if_eq (tgt := 91) hx hb dX8_goes_50 (by decide) (fun c => absurd (show (nI 1) = 0 from c) (by decide +kernel)) (fun _ => ?_)
            refine lv_aload_n hx hb dX8_goes_53 rfl (lv_at hl 2 rfl) ?_
            refine lv_iload hx hb dX8_goes_54 (lv_at hl 0 rfl) ?_
            refine g_callVU (nA := 1) hC V hl.1 (m_isDone l D T o k6 w0 g1 g2 g3 g4 tp w6 w7 w8 w9 w10 w11 w12 w13 w14 g15 w16 g17 w18 w19 g20 w21 g22 g23 g24 w25 w26 w27 g28 g29 w30 g31 g32 g33 f6 (by first | assumption | omega)) w_1088 w_1090 w_s47 w_9 w_1091 (by decide +kernel) rfl ⟨(Nat.le_of_ble_eq_true rfl), (Nat.le_of_ble_eq_true rfl)⟩ 0 (ci := 8) rfl rfl [0, 1] rfl rfl (Nat.le_of_ble_eq_true rfl) dX8_goes_56 ⟨(Nat.le_of_ble_eq_true rfl), (Nat.le_of_ble_eq_true rfl)⟩ rfl (fun r w1 H locs hQ V => ?_)
            rcases hQ with ⟨rfl, rfl, f_25⟩ | ⟨rfl, rfl, f_26⟩
            · have V : gW D T A s [(o, .inr (8, [.int w0, .ref g1, .ref g2, .ref g3, .ref g4, .int (nI tp), .int w6, .int w7, .int w8, .int w9, .int w10, .int w11, .int w12, .int w13, .int w14, .ref g15, .int w16, .ref g17, .int w18, .int w19, .ref g20, .int w21, .ref g22, .ref g23, .ref g24, .int w25, .int w26, .int w27, .ref g28, .ref g29, .int w30, .ref g31, .ref g32, .ref g33])), (g1, .inl (T 0, 282, .inl f6)), (g15, .inl (T 0, 10, .inl (upd th6 k6 z_20)))] H locs := V _ [0, 0] rfl rfl rfl (by decide +kernel) rfl
              show W p l e _ s m args below meth c H locs _ _ _ (F0 m 59 ls [.int (nI 1)])
              refine lv_if_ne (tgt := 91) hx hb dX8_goes_59 (by decide) (fun _ => ?_) (fun c => absurd (show (nI 1) = 0 from c) (by decide +kernel))
              refine lv_iinc (v := (nI (k6 + 1))) (lv' := [(6, .int (nI (k6 + 1))), (5, .int x5), (0, .ref o), (1, .int pl), (2, .int sk), (3, .int fi), (4, .int mr)]) hx hb dX8_goes_91 hl (k := 0) rfl (nI_1 _) (by decide) rfl (fun ls hl => ?_)
              refine lv_goto (tgt := 6) hx hb dX8_goes_94 (by decide) ?_
              exact ih_6 (k6 + 1) x5 (upd th6 k6 z_20) f6 (by omega) (by assumption) (up_one (p := fun _ x => bd x 201) hth6 (by assumption)) (fun j hj => hA6 j (by omega)) (gB_n hA6 hB6 (sP_2 hn10 (by omega) hA6 f_25)) (up_one (p := fun i x => x = hNw n fa pl fi mr i) hT6 (ht_eq hn10 (by omega) (by omega) hA6 f_22 (if_neg c_19).symm)) (by rw [hC6]; exact gC_n (sP_2 hn10 (by omega) hA6 f_25)) (by omega) _ _ _ V (lv_sub hl [0, 1, 2, 3, 4, 5, 6] rfl)
            · have V : gW D T A s [(o, .inr (8, [.int w0, .ref g1, .ref g2, .ref g3, .ref g4, .int (nI tp), .int w6, .int w7, .int w8, .int w9, .int w10, .int w11, .int w12, .int w13, .int w14, .ref g15, .int w16, .ref g17, .int w18, .int w19, .ref g20, .int w21, .ref g22, .ref g23, .ref g24, .int w25, .int w26, .int w27, .ref g28, .ref g29, .int w30, .ref g31, .ref g32, .ref g33])), (g1, .inl (T 0, 282, .inl f6)), (g15, .inl (T 0, 10, .inl (upd th6 k6 z_20)))] H locs := V _ [0, 0] rfl rfl rfl (by decide +kernel) rfl
              show W p l e _ s m args below meth c H locs _ _ _ (F0 m 59 ls [.int (nI 0)])
              refine lv_if_ne (tgt := 91) hx hb dX8_goes_59 (by decide) (fun c => absurd (show (nI 0) = 0 by decide +kernel) c) (fun _ => ?_)
              refine lv_aload_n hx hb dX8_goes_62 rfl (lv_at hl 2 rfl) ?_
              refine lv_iload hx hb dX8_goes_63 (lv_at hl 0 rfl) ?_
              refine g_callVU (nA := 1) hC V hl.1 (m_isWarm_f l D T o k6 w0 g1 g2 g3 g4 tp w6 w7 w8 w9 w10 w11 w12 w13 w14 g15 w16 g17 w18 w19 g20 w21 g22 g23 g24 w25 w26 w27 g28 g29 w30 g31 g32 g33 f6 (by first | assumption | omega)) w_1136 w_1138 w_s52 w_9 w_1139 (by decide +kernel) rfl ⟨(Nat.le_of_ble_eq_true rfl), (Nat.le_of_ble_eq_true rfl)⟩ 0 (ci := 8) rfl rfl [0, 1] rfl rfl (Nat.le_of_ble_eq_true rfl) dX8_goes_65 ⟨(Nat.le_of_ble_eq_true rfl), (Nat.le_of_ble_eq_true rfl)⟩ rfl (fun r w1 H locs hQ V => ?_)
              rcases hQ with ⟨rfl, rfl, f_27⟩ | ⟨rfl, rfl, f_28⟩
              · have V : gW D T A s [(o, .inr (8, [.int w0, .ref g1, .ref g2, .ref g3, .ref g4, .int (nI tp), .int w6, .int w7, .int w8, .int w9, .int w10, .int w11, .int w12, .int w13, .int w14, .ref g15, .int w16, .ref g17, .int w18, .int w19, .ref g20, .int w21, .ref g22, .ref g23, .ref g24, .int w25, .int w26, .int w27, .ref g28, .ref g29, .int w30, .ref g31, .ref g32, .ref g33])), (g1, .inl (T 0, 282, .inl f6)), (g15, .inl (T 0, 10, .inl (upd th6 k6 z_20)))] H locs := V _ [0, 0] rfl rfl rfl (by decide +kernel) rfl
                show W p l e _ s m args below meth c H locs _ _ _ (F0 m 68 ls [.int (nI 1)])
                refine lv_if_ne (tgt := 74) hx hb dX8_goes_68 (by decide) (fun _ => ?_) (fun c => absurd (show (nI 1) = 0 from c) (by decide +kernel))
                refine lv_aload_n hx hb dX8_goes_74 rfl (lv_at hl 2 rfl) ?_
                refine g_get hC V (ci := 8) uwX8 0 rfl rfl 1 (by decide) w_913 rfl rfl dX8_goes_75 ?_
                refine lv_bipush (v := (nI 64)) hx hb dX8_goes_78 (by decide +kernel) ?_
                refine lv_iload hx hb dX8_goes_80 (lv_at hl 0 rfl) ?_
                refine lv_iadd hx hb dX8_goes_82 ?_
                refine g_vi (y := (nI (64 + k6))) (nI_add _ _) ?_
                refine lv_dup2_11 hx hb dX8_goes_83 rfl rfl ?_
                obtain ⟨j_29, hj_29, ej_29⟩ := bd_ex (mi_has hf6.1 (i := k6) (by omega))
                refine g_iald hC V 1 rfl (vp_in_nI (by omega) (by omega)) (v := (nI j_29)) (by rw [nI_clamp (by omega)]; exact ej_29) dX8_goes_84 ?_
                refine lv_iconst (v := (nI 1)) hx hb dX8_goes_85 (by decide +kernel) ?_
                refine lv_iadd hx hb dX8_goes_86 ?_
                refine g_vi (y := (nI (j_29 + 1))) (nI_add _ _) ?_
                have hlt := bd_lt (mi_has hf6.1 (i := k6) (by omega)) (by decide) (mi_need hf6.1 (i := k6) (by omega)) (by decide) (by assumption) ej_29 (by omega)
                obtain ⟨f_30, ef_30⟩ : ∃ x, x = upd f6 (64 + k6) (nI (j_29 + 1)) := ⟨_, rfl⟩
                have hf_30 : MS n fa f_30 := by rw [ef_30]; exact ms_st (by assumption) (by omega) (by omega) (by intros; first | (exfalso; omega) | exact bd_nI (by omega) | exact bd_le ‹bd (nI (j_29 + 1)) _› (by omega) | assumption) (by intros; first | (exfalso; omega) | exact bd_nI (by omega) | exact bd_le ‹bd (nI (j_29 + 1)) _› (by omega) | assumption) (by intros; first | (exfalso; omega) | exact bd_nI (by omega) | exact bd_le ‹bd (nI (j_29 + 1)) _› (by omega) | assumption) (by intros; first | (exfalso; omega) | exact bd_nI (by omega) | exact bd_le ‹bd (nI (j_29 + 1)) _› (by omega) | assumption) (by intros; first | (exfalso; omega) | exact bd_nI (by omega) | exact bd_le ‹bd (nI (j_29 + 1)) _› (by omega) | assumption) (by intros; first | (exfalso; omega) | exact bd_nI (by omega) | exact bd_le ‹bd (nI (j_29 + 1)) _› (by omega) | assumption) (by intros; first | (exfalso; omega) | exact bd_nI (by omega) | exact bd_le ‹bd (nI (j_29 + 1)) _› (by omega) | assumption)
                refine g_iast hC V 1 rfl (vp_in_nI (by omega) (by omega)) (f' := f_30) (by rw [nI_clamp (by omega)]; exact ef_30.symm) (ws' := [(o, .inr (8, [.int w0, .ref g1, .ref g2, .ref g3, .ref g4, .int (nI tp), .int w6, .int w7, .int w8, .int w9, .int w10, .int w11, .int w12, .int w13, .int w14, .ref g15, .int w16, .ref g17, .int w18, .int w19, .ref g20, .int w21, .ref g22, .ref g23, .ref g24, .int w25, .int w26, .int w27, .ref g28, .ref g29, .int w30, .ref g31, .ref g32, .ref g33])), (g1, .inl (T 0, 282, .inl f_30)), (g15, .inl (T 0, 10, .inl (upd th6 k6 z_20)))]) rfl dX8_goes_87 (fun H locs V => ?_)
                refine lv_iinc (v := (x5 + 1)) (lv' := [(5, .int (x5 + 1)), (6, .int (nI k6)), (0, .ref o), (1, .int pl), (2, .int sk), (3, .int fi), (4, .int mr)]) hx hb dX8_goes_88 hl (k := 1) rfl rfl (by decide) rfl (fun ls hl => ?_)
                refine lv_iinc (v := (nI (k6 + 1))) (lv' := [(6, .int (nI (k6 + 1))), (5, .int (x5 + 1)), (0, .ref o), (1, .int pl), (2, .int sk), (3, .int fi), (4, .int mr)]) hx hb dX8_goes_91 hl (k := 1) rfl (nI_1 _) (by decide) rfl (fun ls hl => ?_)
                refine lv_goto (tgt := 6) hx hb dX8_goes_94 (by decide) ?_
                exact ih_6 (k6 + 1) (x5 + 1) (upd th6 k6 z_20) f_30 (by omega) (by assumption) (up_one (p := fun _ x => bd x 201) hth6 (by assumption)) (gA_y ef_30 hA6) (gB_y ef_30 hB6 (st1_y (sP_y hn10 (by omega) hA6 f_23 f_26 f_27) ((hA6 _ (by omega)).symm.trans ej_29))) (up_one (p := fun i x => x = hNw n fa pl fi mr i) hT6 (ht_eq hn10 (by omega) (by omega) hA6 f_22 (if_neg c_19).symm)) (by rw [hC6]; exact gC_y (sP_y hn10 (by omega) hA6 f_23 f_26 f_27)) (by omega) _ _ _ V (lv_sub hl [0, 1, 2, 3, 4, 5, 6] rfl)
              · have V : gW D T A s [(o, .inr (8, [.int w0, .ref g1, .ref g2, .ref g3, .ref g4, .int (nI tp), .int w6, .int w7, .int w8, .int w9, .int w10, .int w11, .int w12, .int w13, .int w14, .ref g15, .int w16, .ref g17, .int w18, .int w19, .ref g20, .int w21, .ref g22, .ref g23, .ref g24, .int w25, .int w26, .int w27, .ref g28, .ref g29, .int w30, .ref g31, .ref g32, .ref g33])), (g1, .inl (T 0, 282, .inl f6)), (g15, .inl (T 0, 10, .inl (upd th6 k6 z_20)))] H locs := V _ [0, 0] rfl rfl rfl (by decide +kernel) rfl
                show W p l e _ s m args below meth c H locs _ _ _ (F0 m 68 ls [.int (nI 0)])
                refine lv_if_ne (tgt := 74) hx hb dX8_goes_68 (by decide) (fun c => absurd (show (nI 0) = 0 by decide +kernel) c) (fun _ => ?_)
                refine lv_goto (tgt := 91) hx hb dX8_goes_71 (by decide) ?_
                refine lv_iinc (v := (nI (k6 + 1))) (lv' := [(6, .int (nI (k6 + 1))), (5, .int x5), (0, .ref o), (1, .int pl), (2, .int sk), (3, .int fi), (4, .int mr)]) hx hb dX8_goes_91 hl (k := 0) rfl (nI_1 _) (by decide) rfl (fun ls hl => ?_)
                refine lv_goto (tgt := 6) hx hb dX8_goes_94 (by decide) ?_
                exact ih_6 (k6 + 1) x5 (upd th6 k6 z_20) f6 (by omega) (by assumption) (up_one (p := fun _ x => bd x 201) hth6 (by assumption)) (fun j hj => hA6 j (by omega)) (gB_n hA6 hB6 (sP_3 hn10 (by omega) hA6 f_28)) (up_one (p := fun i x => x = hNw n fa pl fi mr i) hT6 (ht_eq hn10 (by omega) (by omega) hA6 f_22 (if_neg c_19).symm)) (by rw [hC6]; exact gC_n (sP_3 hn10 (by omega) hA6 f_28)) (by omega) _ _ _ V (lv_sub hl [0, 1, 2, 3, 4, 5, 6] rfl)
          · have V : gW D T A s [(o, .inr (8, [.int w0, .ref g1, .ref g2, .ref g3, .ref g4, .int (nI tp), .int w6, .int w7, .int w8, .int w9, .int w10, .int w11, .int w12, .int w13, .int w14, .ref g15, .int w16, .ref g17, .int w18, .int w19, .ref g20, .int w21, .ref g22, .ref g23, .ref g24, .int w25, .int w26, .int w27, .ref g28, .ref g29, .int w30, .ref g31, .ref g32, .ref g33])), (g1, .inl (T 0, 282, .inl f6)), (g15, .inl (T 0, 10, .inl (upd th6 k6 z_20)))] H locs := V _ [] rfl rfl rfl (by decide +kernel) rfl
            show W p l e _ s m args below meth c H locs _ _ _ (F0 m 50 ls [.int (nI 0)])
            refine lv_if_eq (tgt := 91) hx hb dX8_goes_50 (by decide) (fun _ => ?_) (fun c => absurd (show (nI 0) = 0 by decide +kernel) c)
            refine lv_iinc (v := (nI (k6 + 1))) (lv' := [(6, .int (nI (k6 + 1))), (5, .int x5), (0, .ref o), (1, .int pl), (2, .int sk), (3, .int fi), (4, .int mr)]) hx hb dX8_goes_91 hl (k := 0) rfl (nI_1 _) (by decide) rfl (fun ls hl => ?_)
            refine lv_goto (tgt := 6) hx hb dX8_goes_94 (by decide) ?_
            exact ih_6 (k6 + 1) x5 (upd th6 k6 z_20) f6 (by omega) (by assumption) (up_one (p := fun _ x => bd x 201) hth6 (by assumption)) (fun j hj => hA6 j (by omega)) (gB_n hA6 hB6 (fun q => f_24 q.1)) (up_one (p := fun i x => x = hNw n fa pl fi mr i) hT6 (ht_eq hn10 (by omega) (by omega) hA6 f_22 (if_neg c_19).symm)) (by rw [hC6]; exact gC_n (fun q => f_24 q.1)) (by omega) _ _ _ V (lv_sub hl [0, 1, 2, 3, 4, 5, 6] rfl)
        · skip
          refine lv_iload hx hb dX8_goes_33 (lv_at hl 6 rfl) ?_
          refine lv_goto (tgt := 39) hx hb dX8_goes_35 (by decide) ?_
          refine g_callVU (nA := 3) hC V hl.1 (m_heatThen_f l D T n o k6 pl mr w0 g1 g2 g3 g4 tp w6 w7 w8 w9 w10 w11 w12 w13 w14 g15 w16 g17 w18 w19 g20 w21 g22 g23 g24 w25 w26 w27 g28 g29 w30 g31 g32 g33 f6 hf6.1 (by first | assumption | omega)) w_1126 w_1128 w_s51 w_9 w_1129 (by decide +kernel) rfl ⟨(Nat.le_of_ble_eq_true rfl), (Nat.le_of_ble_eq_true rfl)⟩ 0 (ci := 8) rfl rfl [0, 1] rfl rfl (Nat.le_of_ble_eq_true rfl) dX8_goes_39 ⟨(Nat.le_of_ble_eq_true rfl), (Nat.le_of_ble_eq_true rfl)⟩ rfl (fun r w1 H locs hQ V => ?_)
          obtain ⟨z_31, rfl, rfl, f_32, f_33⟩ := hQ
          have V : gW D T A s [(o, .inr (8, [.int w0, .ref g1, .ref g2, .ref g3, .ref g4, .int (nI tp), .int w6, .int w7, .int w8, .int w9, .int w10, .int w11, .int w12, .int w13, .int w14, .ref g15, .int w16, .ref g17, .int w18, .int w19, .ref g20, .int w21, .ref g22, .ref g23, .ref g24, .int w25, .int w26, .int w27, .ref g28, .ref g29, .int w30, .ref g31, .ref g32, .ref g33])), (g1, .inl (T 0, 282, .inl f6)), (g15, .inl (T 0, 10, .inl th6))] H locs := V _ [0, 0] rfl rfl rfl (by decide +kernel) rfl
          show W p l e _ s m args below meth c H locs _ _ _ (F0 m 42 ls [.int z_31, .int (nI k6), .ref g15])
          refine g_iast hC V 2 rfl (vp_in_nI (by omega) (by omega)) (f' := (upd th6 k6 z_31)) (by rw [nI_clamp (by omega)]) (ws' := [(o, .inr (8, [.int w0, .ref g1, .ref g2, .ref g3, .ref g4, .int (nI tp), .int w6, .int w7, .int w8, .int w9, .int w10, .int w11, .int w12, .int w13, .int w14, .ref g15, .int w16, .ref g17, .int w18, .int w19, .ref g20, .int w21, .ref g22, .ref g23, .ref g24, .int w25, .int w26, .int w27, .ref g28, .ref g29, .int w30, .ref g31, .ref g32, .ref g33])), (g1, .inl (T 0, 282, .inl f6)), (g15, .inl (T 0, 10, .inl (upd th6 k6 z_31)))]) rfl dX8_goes_42 (fun H locs V => ?_)
          refine lv_iload_n hx hb dX8_goes_43 rfl (lv_at hl 4 rfl) ?_
          refine lv_i2l (v := sk.toInt64) hx hb dX8_goes_44 rfl ?_
          refine lv_iload hx hb dX8_goes_45 (lv_at hl 0 rfl) ?_
          refine g_callSU (nA := 2) hC V hl.1 (m_isIn_f l D T sk k6 (by omega)) w_1130 w_1131 w_9 w_1132 (by decide +kernel) rfl ⟨(Nat.le_of_ble_eq_true rfl), (Nat.le_of_ble_eq_true rfl)⟩ [] rfl rfl (Nat.le_of_ble_eq_true rfl) dX8_goes_47 ⟨(Nat.le_of_ble_eq_true rfl), (Nat.le_of_ble_eq_true rfl)⟩ rfl (fun r w1 H locs hQ V => ?_)
          rcases hQ with ⟨rfl, rfl, f_34⟩ | ⟨rfl, rfl, f_35⟩
          · have V : gW D T A s [(o, .inr (8, [.int w0, .ref g1, .ref g2, .ref g3, .ref g4, .int (nI tp), .int w6, .int w7, .int w8, .int w9, .int w10, .int w11, .int w12, .int w13, .int w14, .ref g15, .int w16, .ref g17, .int w18, .int w19, .ref g20, .int w21, .ref g22, .ref g23, .ref g24, .int w25, .int w26, .int w27, .ref g28, .ref g29, .int w30, .ref g31, .ref g32, .ref g33])), (g1, .inl (T 0, 282, .inl f6)), (g15, .inl (T 0, 10, .inl (upd th6 k6 z_31)))] H locs := V _ [] rfl rfl rfl (by decide +kernel) rfl
            show W p l e _ s m args below meth c H locs _ _ _ (F0 m 50 ls [.int (nI 1)])
            refine lv_if_eq (tgt := 91) hx hb dX8_goes_50 (by decide) (fun c => absurd (show (nI 1) = 0 from c) (by decide +kernel)) (fun _ => ?_)
            refine lv_aload_n hx hb dX8_goes_53 rfl (lv_at hl 2 rfl) ?_
            refine lv_iload hx hb dX8_goes_54 (lv_at hl 0 rfl) ?_
            refine g_callVU (nA := 1) hC V hl.1 (m_isDone l D T o k6 w0 g1 g2 g3 g4 tp w6 w7 w8 w9 w10 w11 w12 w13 w14 g15 w16 g17 w18 w19 g20 w21 g22 g23 g24 w25 w26 w27 g28 g29 w30 g31 g32 g33 f6 (by first | assumption | omega)) w_1088 w_1090 w_s47 w_9 w_1091 (by decide +kernel) rfl ⟨(Nat.le_of_ble_eq_true rfl), (Nat.le_of_ble_eq_true rfl)⟩ 0 (ci := 8) rfl rfl [0, 1] rfl rfl (Nat.le_of_ble_eq_true rfl) dX8_goes_56 ⟨(Nat.le_of_ble_eq_true rfl), (Nat.le_of_ble_eq_true rfl)⟩ rfl (fun r w1 H locs hQ V => ?_)
            rcases hQ with ⟨rfl, rfl, f_36⟩ | ⟨rfl, rfl, f_37⟩
            · have V : gW D T A s [(o, .inr (8, [.int w0, .ref g1, .ref g2, .ref g3, .ref g4, .int (nI tp), .int w6, .int w7, .int w8, .int w9, .int w10, .int w11, .int w12, .int w13, .int w14, .ref g15, .int w16, .ref g17, .int w18, .int w19, .ref g20, .int w21, .ref g22, .ref g23, .ref g24, .int w25, .int w26, .int w27, .ref g28, .ref g29, .int w30, .ref g31, .ref g32, .ref g33])), (g1, .inl (T 0, 282, .inl f6)), (g15, .inl (T 0, 10, .inl (upd th6 k6 z_31)))] H locs := V _ [0, 0] rfl rfl rfl (by decide +kernel) rfl
              show W p l e _ s m args below meth c H locs _ _ _ (F0 m 59 ls [.int (nI 1)])
              refine lv_if_ne (tgt := 91) hx hb dX8_goes_59 (by decide) (fun _ => ?_) (fun c => absurd (show (nI 1) = 0 from c) (by decide +kernel))
              refine lv_iinc (v := (nI (k6 + 1))) (lv' := [(6, .int (nI (k6 + 1))), (5, .int x5), (0, .ref o), (1, .int pl), (2, .int sk), (3, .int fi), (4, .int mr)]) hx hb dX8_goes_91 hl (k := 0) rfl (nI_1 _) (by decide) rfl (fun ls hl => ?_)
              refine lv_goto (tgt := 6) hx hb dX8_goes_94 (by decide) ?_
              exact ih_6 (k6 + 1) x5 (upd th6 k6 z_31) f6 (by omega) (by assumption) (up_one (p := fun _ x => bd x 201) hth6 (by assumption)) (fun j hj => hA6 j (by omega)) (gB_n hA6 hB6 (sP_2 hn10 (by omega) hA6 f_36)) (up_one (p := fun i x => x = hNw n fa pl fi mr i) hT6 (ht_eq hn10 (by omega) (by omega) hA6 f_33 (if_pos c_19).symm)) (by rw [hC6]; exact gC_n (sP_2 hn10 (by omega) hA6 f_36)) (by omega) _ _ _ V (lv_sub hl [0, 1, 2, 3, 4, 5, 6] rfl)
            · have V : gW D T A s [(o, .inr (8, [.int w0, .ref g1, .ref g2, .ref g3, .ref g4, .int (nI tp), .int w6, .int w7, .int w8, .int w9, .int w10, .int w11, .int w12, .int w13, .int w14, .ref g15, .int w16, .ref g17, .int w18, .int w19, .ref g20, .int w21, .ref g22, .ref g23, .ref g24, .int w25, .int w26, .int w27, .ref g28, .ref g29, .int w30, .ref g31, .ref g32, .ref g33])), (g1, .inl (T 0, 282, .inl f6)), (g15, .inl (T 0, 10, .inl (upd th6 k6 z_31)))] H locs := V _ [0, 0] rfl rfl rfl (by decide +kernel) rfl
              show W p l e _ s m args below meth c H locs _ _ _ (F0 m 59 ls [.int (nI 0)])
              refine lv_if_ne (tgt := 91) hx hb dX8_goes_59 (by decide) (fun c => absurd (show (nI 0) = 0 by decide +kernel) c) (fun _ => ?_)
              refine lv_aload_n hx hb dX8_goes_62 rfl (lv_at hl 2 rfl) ?_
              refine lv_iload hx hb dX8_goes_63 (lv_at hl 0 rfl) ?_
              refine g_callVU (nA := 1) hC V hl.1 (m_isWarm_f l D T o k6 w0 g1 g2 g3 g4 tp w6 w7 w8 w9 w10 w11 w12 w13 w14 g15 w16 g17 w18 w19 g20 w21 g22 g23 g24 w25 w26 w27 g28 g29 w30 g31 g32 g33 f6 (by first | assumption | omega)) w_1136 w_1138 w_s52 w_9 w_1139 (by decide +kernel) rfl ⟨(Nat.le_of_ble_eq_true rfl), (Nat.le_of_ble_eq_true rfl)⟩ 0 (ci := 8) rfl rfl [0, 1] rfl rfl (Nat.le_of_ble_eq_true rfl) dX8_goes_65 ⟨(Nat.le_of_ble_eq_true rfl), (Nat.le_of_ble_eq_true rfl)⟩ rfl (fun r w1 H locs hQ V => ?_)
              rcases hQ with ⟨rfl, rfl, f_38⟩ | ⟨rfl, rfl, f_39⟩
              · have V : gW D T A s [(o, .inr (8, [.int w0, .ref g1, .ref g2, .ref g3, .ref g4, .int (nI tp), .int w6, .int w7, .int w8, .int w9, .int w10, .int w11, .int w12, .int w13, .int w14, .ref g15, .int w16, .ref g17, .int w18, .int w19, .ref g20, .int w21, .ref g22, .ref g23, .ref g24, .int w25, .int w26, .int w27, .ref g28, .ref g29, .int w30, .ref g31, .ref g32, .ref g33])), (g1, .inl (T 0, 282, .inl f6)), (g15, .inl (T 0, 10, .inl (upd th6 k6 z_31)))] H locs := V _ [0, 0] rfl rfl rfl (by decide +kernel) rfl
                show W p l e _ s m args below meth c H locs _ _ _ (F0 m 68 ls [.int (nI 1)])
                refine lv_if_ne (tgt := 74) hx hb dX8_goes_68 (by decide) (fun _ => ?_) (fun c => absurd (show (nI 1) = 0 from c) (by decide +kernel))
                refine lv_aload_n hx hb dX8_goes_74 rfl (lv_at hl 2 rfl) ?_
                refine g_get hC V (ci := 8) uwX8 0 rfl rfl 1 (by decide) w_913 rfl rfl dX8_goes_75 ?_
                refine lv_bipush (v := (nI 64)) hx hb dX8_goes_78 (by decide +kernel) ?_
                refine lv_iload hx hb dX8_goes_80 (lv_at hl 0 rfl) ?_
                refine lv_iadd hx hb dX8_goes_82 ?_
                refine g_vi (y := (nI (64 + k6))) (nI_add _ _) ?_
                refine lv_dup2_11 hx hb dX8_goes_83 rfl rfl ?_
                obtain ⟨j_40, hj_40, ej_40⟩ := bd_ex (mi_has hf6.1 (i := k6) (by omega))
                refine g_iald hC V 1 rfl (vp_in_nI (by omega) (by omega)) (v := (nI j_40)) (by rw [nI_clamp (by omega)]; exact ej_40) dX8_goes_84 ?_
                refine lv_iconst (v := (nI 1)) hx hb dX8_goes_85 (by decide +kernel) ?_
                refine lv_iadd hx hb dX8_goes_86 ?_
                refine g_vi (y := (nI (j_40 + 1))) (nI_add _ _) ?_
                have hlt := bd_lt (mi_has hf6.1 (i := k6) (by omega)) (by decide) (mi_need hf6.1 (i := k6) (by omega)) (by decide) (by assumption) ej_40 (by omega)
                obtain ⟨f_41, ef_41⟩ : ∃ x, x = upd f6 (64 + k6) (nI (j_40 + 1)) := ⟨_, rfl⟩
                have hf_41 : MS n fa f_41 := by rw [ef_41]; exact ms_st (by assumption) (by omega) (by omega) (by intros; first | (exfalso; omega) | exact bd_nI (by omega) | exact bd_le ‹bd (nI (j_40 + 1)) _› (by omega) | assumption) (by intros; first | (exfalso; omega) | exact bd_nI (by omega) | exact bd_le ‹bd (nI (j_40 + 1)) _› (by omega) | assumption) (by intros; first | (exfalso; omega) | exact bd_nI (by omega) | exact bd_le ‹bd (nI (j_40 + 1)) _› (by omega) | assumption) (by intros; first | (exfalso; omega) | exact bd_nI (by omega) | exact bd_le ‹bd (nI (j_40 + 1)) _› (by omega) | assumption) (by intros; first | (exfalso; omega) | exact bd_nI (by omega) | exact bd_le ‹bd (nI (j_40 + 1)) _› (by omega) | assumption) (by intros; first | (exfalso; omega) | exact bd_nI (by omega) | exact bd_le ‹bd (nI (j_40 + 1)) _› (by omega) | assumption) (by intros; first | (exfalso; omega) | exact bd_nI (by omega) | exact bd_le ‹bd (nI (j_40 + 1)) _› (by omega) | assumption)
                refine g_iast hC V 1 rfl (vp_in_nI (by omega) (by omega)) (f' := f_41) (by rw [nI_clamp (by omega)]; exact ef_41.symm) (ws' := [(o, .inr (8, [.int w0, .ref g1, .ref g2, .ref g3, .ref g4, .int (nI tp), .int w6, .int w7, .int w8, .int w9, .int w10, .int w11, .int w12, .int w13, .int w14, .ref g15, .int w16, .ref g17, .int w18, .int w19, .ref g20, .int w21, .ref g22, .ref g23, .ref g24, .int w25, .int w26, .int w27, .ref g28, .ref g29, .int w30, .ref g31, .ref g32, .ref g33])), (g1, .inl (T 0, 282, .inl f_41)), (g15, .inl (T 0, 10, .inl (upd th6 k6 z_31)))]) rfl dX8_goes_87 (fun H locs V => ?_)
                refine lv_iinc (v := (x5 + 1)) (lv' := [(5, .int (x5 + 1)), (6, .int (nI k6)), (0, .ref o), (1, .int pl), (2, .int sk), (3, .int fi), (4, .int mr)]) hx hb dX8_goes_88 hl (k := 1) rfl rfl (by decide) rfl (fun ls hl => ?_)
                refine lv_iinc (v := (nI (k6 + 1))) (lv' := [(6, .int (nI (k6 + 1))), (5, .int (x5 + 1)), (0, .ref o), (1, .int pl), (2, .int sk), (3, .int fi), (4, .int mr)]) hx hb dX8_goes_91 hl (k := 1) rfl (nI_1 _) (by decide) rfl (fun ls hl => ?_)
                refine lv_goto (tgt := 6) hx hb dX8_goes_94 (by decide) ?_
                exact ih_6 (k6 + 1) (x5 + 1) (upd th6 k6 z_31) f_41 (by omega) (by assumption) (up_one (p := fun _ x => bd x 201) hth6 (by assumption)) (gA_y ef_41 hA6) (gB_y ef_41 hB6 (st1_y (sP_y hn10 (by omega) hA6 f_34 f_37 f_38) ((hA6 _ (by omega)).symm.trans ej_40))) (up_one (p := fun i x => x = hNw n fa pl fi mr i) hT6 (ht_eq hn10 (by omega) (by omega) hA6 f_33 (if_pos c_19).symm)) (by rw [hC6]; exact gC_y (sP_y hn10 (by omega) hA6 f_34 f_37 f_38)) (by omega) _ _ _ V (lv_sub hl [0, 1, 2, 3, 4, 5, 6] rfl)
              · have V : gW D T A s [(o, .inr (8, [.int w0, .ref g1, .ref g2, .ref g3, .ref g4, .int (nI tp), .int w6, .int w7, .int w8, .int w9, .int w10, .int w11, .int w12, .int w13, .int w14, .ref g15, .int w16, .ref g17, .int w18, .int w19, .ref g20, .int w21, .ref g22, .ref g23, .ref g24, .int w25, .int w26, .int w27, .ref g28, .ref g29, .int w30, .ref g31, .ref g32, .ref g33])), (g1, .inl (T 0, 282, .inl f6)), (g15, .inl (T 0, 10, .inl (upd th6 k6 z_31)))] H locs := V _ [0, 0] rfl rfl rfl (by decide +kernel) rfl
                show W p l e _ s m args below meth c H locs _ _ _ (F0 m 68 ls [.int (nI 0)])
                refine lv_if_ne (tgt := 74) hx hb dX8_goes_68 (by decide) (fun c => absurd (show (nI 0) = 0 by decide +kernel) c) (fun _ => ?_)
                refine lv_goto (tgt := 91) hx hb dX8_goes_71 (by decide) ?_
                refine lv_iinc (v := (nI (k6 + 1))) (lv' := [(6, .int (nI (k6 + 1))), (5, .int x5), (0, .ref o), (1, .int pl), (2, .int sk), (3, .int fi), (4, .int mr)]) hx hb dX8_goes_91 hl (k := 0) rfl (nI_1 _) (by decide) rfl (fun ls hl => ?_)
                refine lv_goto (tgt := 6) hx hb dX8_goes_94 (by decide) ?_
                exact ih_6 (k6 + 1) x5 (upd th6 k6 z_31) f6 (by omega) (by assumption) (up_one (p := fun _ x => bd x 201) hth6 (by assumption)) (fun j hj => hA6 j (by omega)) (gB_n hA6 hB6 (sP_3 hn10 (by omega) hA6 f_39)) (up_one (p := fun i x => x = hNw n fa pl fi mr i) hT6 (ht_eq hn10 (by omega) (by omega) hA6 f_33 (if_pos c_19).symm)) (by rw [hC6]; exact gC_n (sP_3 hn10 (by omega) hA6 f_39)) (by omega) _ _ _ V (lv_sub hl [0, 1, 2, 3, 4, 5, 6] rfl)
          · have V : gW D T A s [(o, .inr (8, [.int w0, .ref g1, .ref g2, .ref g3, .ref g4, .int (nI tp), .int w6, .int w7, .int w8, .int w9, .int w10, .int w11, .int w12, .int w13, .int w14, .ref g15, .int w16, .ref g17, .int w18, .int w19, .ref g20, .int w21, .ref g22, .ref g23, .ref g24, .int w25, .int w26, .int w27, .ref g28, .ref g29, .int w30, .ref g31, .ref g32, .ref g33])), (g1, .inl (T 0, 282, .inl f6)), (g15, .inl (T 0, 10, .inl (upd th6 k6 z_31)))] H locs := V _ [] rfl rfl rfl (by decide +kernel) rfl
            show W p l e _ s m args below meth c H locs _ _ _ (F0 m 50 ls [.int (nI 0)])
            refine lv_if_eq (tgt := 91) hx hb dX8_goes_50 (by decide) (fun _ => ?_) (fun c => absurd (show (nI 0) = 0 by decide +kernel) c)
            refine lv_iinc (v := (nI (k6 + 1))) (lv' := [(6, .int (nI (k6 + 1))), (5, .int x5), (0, .ref o), (1, .int pl), (2, .int sk), (3, .int fi), (4, .int mr)]) hx hb dX8_goes_91 hl (k := 0) rfl (nI_1 _) (by decide) rfl (fun ls hl => ?_)
            refine lv_goto (tgt := 6) hx hb dX8_goes_94 (by decide) ?_
            exact ih_6 (k6 + 1) x5 (upd th6 k6 z_31) f6 (by omega) (by assumption) (up_one (p := fun _ x => bd x 201) hth6 (by assumption)) (fun j hj => hA6 j (by omega)) (gB_n hA6 hB6 (fun q => f_35 q.1)) (up_one (p := fun i x => x = hNw n fa pl fi mr i) hT6 (ht_eq hn10 (by omega) (by omega) hA6 f_33 (if_pos c_19).symm)) (by rw [hC6]; exact gC_n (fun q => f_35 q.1)) (by omega) _ _ _ V (lv_sub hl [0, 1, 2, 3, 4, 5, 6] rfl)
  exact L_1 _ 0 (nI 0) fh fa (by omega) (by assumption) (fun i h => absurd h (Nat.not_lt_zero _)) (fun _ _ => rfl) (fun i h => absurd h (Nat.not_lt_zero _)) (fun i h => absurd h (Nat.not_lt_zero _)) rfl (Nat.lt_succ_self _) _ _ _ V (lv_sub hl [0, 1, 2, 3, 4, 5, 6] rfl)
