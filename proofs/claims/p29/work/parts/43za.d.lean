def q_m_waysSeen_f (T : Nat → ClassId) (n : Nat) (o : Nat) (r : Nat) (w0 : Int32) (g1 : Nat) (g2 : Nat) (g3 : Nat) (g4 : Nat) (tp : Nat) (w6 : Int32) (w7 : Int32) (w8 : Int32) (w9 : Int32) (w10 : Int32) (w11 : Int32) (w12 : Int32) (w13 : Int32) (w14 : Int32) (g15 : Nat) (w16 : Int32) (g17 : Nat) (w18 : Int32) (w19 : Int32) (g20 : Nat) (w21 : Int32) (g22 : Nat) (g23 : Nat) (g24 : Nat) (w25 : Int32) (w26 : Int32) (w27 : Int32) (g28 : Nat) (g29 : Nat) (w30 : Int32) (g31 : Nat) (g32 : Nat) (g33 : Nat) (fa : Nat → Int32) (fm : Nat → Int32) (fn : Nat → Int64) : Option Value → va_W → Prop := fun rr ww => (∃ (z : Int32) (x1 : Int32) (x2 : Int32), rr = some (.int z) ∧ ww = [(o, .inr (8, [.int w0, .ref g1, .ref g2, .ref g3, .ref g4, .int (nI tp), .int w6, .int w7, .int w8, .int w9, .int w10, .int w11, .int w12, .int w13, .int w14, .ref g15, .int w16, .ref g17, .int w18, .int w19, .ref g20, .int w21, .ref g22, .ref g23, .ref g24, .int w25, .int x1, .int x2, .ref g28, .ref g29, .int w30, .ref g31, .ref g32, .ref g33])), (g1, .inl (T 0, 282, .inl fa)), (g32, .inl (T 0, 4, .inl fm)), (g33, .inl (T 1, 160, .inr (.inl fn)))] ∧ z = snC n fa (fun i => fn (40 * r + i)) (2 ^ n) ∧ x1 = snY n fa (fun i => fn (40 * r + i)) (2 ^ n) ∧ x2 = snN n fa (fun i => fn (40 * r + i)) (2 ^ n))
set_option maxHeartbeats 4000000 in
set_option maxRecDepth 100000 in
theorem m_waysSeen_f (l : Launch) (D : va_G) (T : Nat → ClassId) (n : Nat) (o : Nat) (r : Nat) (w0 : Int32) (g1 : Nat) (g2 : Nat) (g3 : Nat) (g4 : Nat) (tp : Nat) (w6 : Int32) (w7 : Int32) (w8 : Int32) (w9 : Int32) (w10 : Int32) (w11 : Int32) (w12 : Int32) (w13 : Int32) (w14 : Int32) (g15 : Nat) (w16 : Int32) (g17 : Nat) (w18 : Int32) (w19 : Int32) (g20 : Nat) (w21 : Int32) (g22 : Nat) (g23 : Nat) (g24 : Nat) (w25 : Int32) (w26 : Int32) (w27 : Int32) (g28 : Nat) (g29 : Nat) (w30 : Int32) (g31 : Nat) (g32 : Nat) (g33 : Nat) (fa : Nat → Int32) (fm : Nat → Int32) (fn : Nat → Int64) (h_a : MI n fa) (h_r : r < 4) : Ct l yX8_waysSeen cX8_waysSeen 6 (some .int) 2 0 0 D T [.ref o, .int (nI r)] [(o, .inr (8, [.int w0, .ref g1, .ref g2, .ref g3, .ref g4, .int (nI tp), .int w6, .int w7, .int w8, .int w9, .int w10, .int w11, .int w12, .int w13, .int w14, .ref g15, .int w16, .ref g17, .int w18, .int w19, .ref g20, .int w21, .ref g22, .ref g23, .ref g24, .int w25, .int w26, .int w27, .ref g28, .ref g29, .int w30, .ref g31, .ref g32, .ref g33])), (g1, .inl (T 0, 282, .inl fa)), (g32, .inl (T 0, 4, .inl fm)), (g33, .inl (T 1, 160, .inr (.inl fn)))] (q_m_waysSeen_f T n o r w0 g1 g2 g3 g4 tp w6 w7 w8 w9 w10 w11 w12 w13 w14 g15 w16 g17 w18 w19 g20 w21 g22 g23 g24 w25 w26 w27 g28 g29 w30 g31 g32 g33 fa fm fn) := by
  refine Ct.of (cc := cX8_waysSeen) (maxL := 6) (ret := (some .int)) (by decide) (Nat.le_of_ble_eq_true rfl) ?_
  intro p e s m args below meth c A ls hC hnm V hl
  obtain ⟨hx, hb, hr, hml, hown, hts, hlocks⟩ := id hC
  generalize hH : s.heap = H at V ⊢
  clear hH
  have hl : lv_has ls 6 [(0, .ref o), (1, .int (nI r))] := hl
  generalize hlo : ([] : List Loc) = locs at V ⊢
  clear hlo
  have ms0 := ms_rf h_a
  have hn10 := h_a.1
  have hpw := pw10 hn10
  refine lv_iconst (v := (nI 0)) hx hb dX8_waysSeen_0 (by decide +kernel) ?_
  refine lv_istore_n (lv' := [(2, .int (nI 0)), (0, .ref o), (1, .int (nI r))]) hx hb dX8_waysSeen_1 rfl hl (by decide) rfl (fun ls hl => ?_)
  refine lv_aload_n hx hb dX8_waysSeen_2 rfl (lv_at hl 1 rfl) ?_
  refine lv_iconst (v := (nI 1)) hx hb dX8_waysSeen_3 (by decide +kernel) ?_
  refine lv_aload_n hx hb dX8_waysSeen_4 rfl (lv_at hl 1 rfl) ?_
  refine g_get hC V (ci := 8) uwX8 0 rfl rfl 1 (by decide) w_913 rfl rfl dX8_waysSeen_5 ?_
  refine lv_iconst (v := (nI 0)) hx hb dX8_waysSeen_8 (by decide +kernel) ?_
  refine g_iald hC V 1 rfl (vp_in_nI (by decide) (by decide)) (v := (nI n)) (by rw [nI_clamp (by decide)]; first | rfl | exact h_a.2.1) dX8_waysSeen_9 ?_
  refine lv_ishl hx hb dX8_waysSeen_10 ?_
  refine g_vi (y := (nI (2 ^ n))) (shl_pow (by omega)) ?_
  refine lv_iconst (v := (nI 1)) hx hb dX8_waysSeen_11 (by decide +kernel) ?_
  refine lv_isub hx hb dX8_waysSeen_12 ?_
  refine g_vi (y := (nI ((2 ^ n) - 1))) (nI_sub (by omega)) ?_
  refine g_put hC V (ci := 8) uwX8 tyX8 tyX8_ok nmX8 0 rfl rfl 26 (by decide) w_938 rfl rfl rfl rfl (Nat.le_of_ble_eq_true rfl) (ws' := [(o, .inr (8, [.int w0, .ref g1, .ref g2, .ref g3, .ref g4, .int (nI tp), .int w6, .int w7, .int w8, .int w9, .int w10, .int w11, .int w12, .int w13, .int w14, .ref g15, .int w16, .ref g17, .int w18, .int w19, .ref g20, .int w21, .ref g22, .ref g23, .ref g24, .int w25, .int (nI ((2 ^ n) - 1)), .int w27, .ref g28, .ref g29, .int w30, .ref g31, .ref g32, .ref g33])), (g1, .inl (T 0, 282, .inl fa)), (g32, .inl (T 0, 4, .inl fm)), (g33, .inl (T 1, 160, .inr (.inl fn)))]) rfl dX8_waysSeen_13 (fun H locs V => ?_)
  refine lv_aload_n hx hb dX8_waysSeen_16 rfl (lv_at hl 1 rfl) ?_
  refine lv_aload_n hx hb dX8_waysSeen_17 rfl (lv_at hl 1 rfl) ?_
  refine g_get hC V (ci := 8) uwX8 0 rfl rfl 26 (by decide) w_938 rfl rfl dX8_waysSeen_18 ?_
  refine g_put hC V (ci := 8) uwX8 tyX8 tyX8_ok nmX8 0 rfl rfl 27 (by decide) w_939 rfl rfl rfl rfl (Nat.le_of_ble_eq_true rfl) (ws' := [(o, .inr (8, [.int w0, .ref g1, .ref g2, .ref g3, .ref g4, .int (nI tp), .int w6, .int w7, .int w8, .int w9, .int w10, .int w11, .int w12, .int w13, .int w14, .ref g15, .int w16, .ref g17, .int w18, .int w19, .ref g20, .int w21, .ref g22, .ref g23, .ref g24, .int w25, .int (nI ((2 ^ n) - 1)), .int (nI ((2 ^ n) - 1)), .ref g28, .ref g29, .int w30, .ref g31, .ref g32, .ref g33])), (g1, .inl (T 0, 282, .inl fa)), (g32, .inl (T 0, 4, .inl fm)), (g33, .inl (T 1, 160, .inr (.inl fn)))]) rfl dX8_waysSeen_21 (fun H locs V => ?_)
  refine lv_iconst (v := (nI 0)) hx hb dX8_waysSeen_24 (by decide +kernel) ?_
  refine lv_istore_n (lv' := [(3, .int (nI 0)), (2, .int (nI 0)), (0, .ref o), (1, .int (nI r))]) hx hb dX8_waysSeen_25 rfl hl (by decide) rfl (fun ls hl => ?_)
  have L_1 : ∀ (fu : Nat) (k26 : Nat) (x2_ : Int32) (v1 : Int32) (v2 : Int32), k26 ≤ 2 ^ n → x2_ = snC n fa (fun i => fn (40 * r + i)) k26 → v1 = snY n fa (fun i => fn (40 * r + i)) k26 → v2 = snN n fa (fun i => fn (40 * r + i)) k26 → 2 ^ n - k26 < fu → ∀ (H : Heap) (locs : List Loc) (ls : Array Slot), gW D T A s [(o, .inr (8, [.int w0, .ref g1, .ref g2, .ref g3, .ref g4, .int (nI tp), .int w6, .int w7, .int w8, .int w9, .int w10, .int w11, .int w12, .int w13, .int w14, .ref g15, .int w16, .ref g17, .int w18, .int w19, .ref g20, .int w21, .ref g22, .ref g23, .ref g24, .int w25, .int v1, .int v2, .ref g28, .ref g29, .int w30, .ref g31, .ref g32, .ref g33])), (g1, .inl (T 0, 282, .inl fa)), (g32, .inl (T 0, 4, .inl fm)), (g33, .inl (T 1, 160, .inr (.inl fn)))] H locs → lv_has ls 6 [(3, .int (nI k26)), (2, .int x2_), (0, .ref o), (1, .int (nI r))] → W p l e (rmD 2 0 0) s m args below meth c H locs 0 0 (MQ below (gQ D A (q_m_waysSeen_f T n o r w0 g1 g2 g3 g4 tp w6 w7 w8 w9 w10 w11 w12 w13 w14 g15 w16 g17 w18 w19 g20 w21 g22 g23 g24 w25 w26 w27 g28 g29 w30 g31 g32 g33 fa fm fn)) args s 0 0 A) (F0 m 26 ls []) := by
    intro fu_26
    induction fu_26 with
    | zero => intro k26 x2_ v1 v2 hk26 hc2 hv1 hv2 hmu; exact absurd hmu (Nat.not_lt_zero _)
    | succ fu_26 ih_26 =>
      intro k26 x2_ v1 v2 hk26 hc2 hv1 hv2 hmu_26 H locs ls V hl
      refine lv_iload_n hx hb dX8_waysSeen_26 rfl (lv_at hl 0 rfl) ?_
      refine lv_iconst (v := (nI 1)) hx hb dX8_waysSeen_27 (by decide +kernel) ?_
      refine lv_aload_n hx hb dX8_waysSeen_28 rfl (lv_at hl 2 rfl) ?_
      refine g_get hC V (ci := 8) uwX8 0 rfl rfl 1 (by decide) w_913 rfl rfl dX8_waysSeen_29 ?_
      refine lv_iconst (v := (nI 0)) hx hb dX8_waysSeen_32 (by decide +kernel) ?_
      refine g_iald hC V 1 rfl (vp_in_nI (by decide) (by decide)) (v := (nI n)) (by rw [nI_clamp (by decide)]; first | rfl | exact h_a.2.1) dX8_waysSeen_33 ?_
      refine lv_ishl hx hb dX8_waysSeen_34 ?_
      refine g_vi (y := (nI (2 ^ n))) (shl_pow (by omega)) ?_
      refine lv_icmp_ge (tgt := 137) hx hb dX8_waysSeen_35 (by decide) (fun c_2 => ?_) (fun c_2 => ?_)
      · skip
        have c_2 := b_le (by omega) (by omega) c_2
        refine lv_iload_n hx hb dX8_waysSeen_137 rfl (lv_at hl 1 rfl) ?_
        exact g_iret (Qr := (q_m_waysSeen_f T n o r w0 g1 g2 g3 g4 tp w6 w7 w8 w9 w10 w11 w12 w13 w14 g15 w16 g17 w18 w19 g20 w21 g22 g23 g24 w25 w26 w27 g28 g29 w30 g31 g32 g33 fa fm fn)) hC V ⟨(Nat.le_of_ble_eq_true rfl), (Nat.le_of_ble_eq_true rfl)⟩ ⟨x2_, v1, v2, rfl, rfl, (by rw [hc2]; congr 1; omega), (by rw [hv1]; congr 1; omega), (by rw [hv2]; congr 1; omega)⟩ dX8_waysSeen_138
      · skip
        have c_2 := b_nle (by omega) (by omega) c_2
        refine lv_iconst (v := (nI 1)) hx hb dX8_waysSeen_38 (by decide +kernel) ?_
        refine lv_istore (lv' := [(4, .int (nI 1)), (3, .int (nI k26)), (2, .int x2_), (0, .ref o), (1, .int (nI r))]) hx hb dX8_waysSeen_39 hl (by decide) rfl (fun ls hl => ?_)
        refine lv_iconst (v := (nI 0)) hx hb dX8_waysSeen_41 (by decide +kernel) ?_
        refine lv_istore (lv' := [(5, .int (nI 0)), (4, .int (nI 1)), (3, .int (nI k26)), (2, .int x2_), (0, .ref o), (1, .int (nI r))]) hx hb dX8_waysSeen_42 hl (by decide) rfl (fun ls hl => ?_)
        have L_3 : ∀ (fu : Nat) (k44 : Nat) (b4 : Int32), k44 ≤ n → CbS n fa (fun i => fn (40 * r + i)) (nI k26) k44 b4 → n - k44 < fu → ∀ (H : Heap) (locs : List Loc) (ls : Array Slot), gW D T A s [(o, .inr (8, [.int w0, .ref g1, .ref g2, .ref g3, .ref g4, .int (nI tp), .int w6, .int w7, .int w8, .int w9, .int w10, .int w11, .int w12, .int w13, .int w14, .ref g15, .int w16, .ref g17, .int w18, .int w19, .ref g20, .int w21, .ref g22, .ref g23, .ref g24, .int w25, .int v1, .int v2, .ref g28, .ref g29, .int w30, .ref g31, .ref g32, .ref g33])), (g1, .inl (T 0, 282, .inl fa)), (g32, .inl (T 0, 4, .inl fm)), (g33, .inl (T 1, 160, .inr (.inl fn)))] H locs → lv_has ls 6 [(5, .int (nI k44)), (4, .int b4), (3, .int (nI k26)), (2, .int x2_), (0, .ref o), (1, .int (nI r))] → W p l e (rmD 2 0 0) s m args below meth c H locs 0 0 (MQ below (gQ D A (q_m_waysSeen_f T n o r w0 g1 g2 g3 g4 tp w6 w7 w8 w9 w10 w11 w12 w13 w14 g15 w16 g17 w18 w19 g20 w21 g22 g23 g24 w25 w26 w27 g28 g29 w30 g31 g32 g33 fa fm fn)) args s 0 0 A) (F0 m 44 ls []) := by
          intro fu_44
          induction fu_44 with
          | zero => intro k44 b4 hk44 hb4 hmu; exact absurd hmu (Nat.not_lt_zero _)
          | succ fu_44 ih_44 =>
            intro k44 b4 hk44 hb4 hmu_44 H locs ls V hl
            refine lv_iload hx hb dX8_waysSeen_44 (lv_at hl 0 rfl) ?_
            refine lv_aload_n hx hb dX8_waysSeen_46 rfl (lv_at hl 4 rfl) ?_
            refine g_get hC V (ci := 8) uwX8 0 rfl rfl 1 (by decide) w_913 rfl rfl dX8_waysSeen_47 ?_
            refine lv_iconst (v := (nI 0)) hx hb dX8_waysSeen_50 (by decide +kernel) ?_
            refine g_iald hC V 1 rfl (vp_in_nI (by decide) (by decide)) (v := (nI n)) (by rw [nI_clamp (by decide)]; first | rfl | exact h_a.2.1) dX8_waysSeen_51 ?_
            refine lv_icmp_ge (tgt := 98) hx hb dX8_waysSeen_52 (by decide) (fun c_4 => ?_) (fun c_4 => ?_)
            · skip
              have c_4 := b_le (by omega) (by omega) c_4
              refine lv_iload hx hb dX8_waysSeen_98 (lv_at hl 1 rfl) ?_
              refine lv_if_ne (tgt := 106) hx hb dX8_waysSeen_100 (by decide) (fun c_5 => ?_) (fun c_5 => ?_)
              · skip
                refine lv_iinc (v := (x2_ + 1)) (lv' := [(2, .int (x2_ + 1)), (5, .int (nI k44)), (4, .int b4), (3, .int (nI k26)), (0, .ref o), (1, .int (nI r))]) hx hb dX8_waysSeen_106 hl (k := 3) rfl rfl (by decide) rfl (fun ls hl => ?_)
                refine lv_aload_n hx hb dX8_waysSeen_109 rfl (lv_at hl 4 rfl) ?_
                refine lv_dup hx hb dX8_waysSeen_110 rfl ?_
                refine g_get hC V (ci := 8) uwX8 0 rfl rfl 26 (by decide) w_938 rfl rfl dX8_waysSeen_111 ?_
                refine lv_iload_n hx hb dX8_waysSeen_114 rfl (lv_at hl 3 rfl) ?_
                refine lv_iand hx hb dX8_waysSeen_115 ?_
                refine g_put hC V (ci := 8) uwX8 tyX8 tyX8_ok nmX8 0 rfl rfl 26 (by decide) w_938 rfl rfl rfl rfl (Nat.le_of_ble_eq_true rfl) (ws' := [(o, .inr (8, [.int w0, .ref g1, .ref g2, .ref g3, .ref g4, .int (nI tp), .int w6, .int w7, .int w8, .int w9, .int w10, .int w11, .int w12, .int w13, .int w14, .ref g15, .int w16, .ref g17, .int w18, .int w19, .ref g20, .int w21, .ref g22, .ref g23, .ref g24, .int w25, .int (v1 &&& (nI k26)), .int v2, .ref g28, .ref g29, .int w30, .ref g31, .ref g32, .ref g33])), (g1, .inl (T 0, 282, .inl fa)), (g32, .inl (T 0, 4, .inl fm)), (g33, .inl (T 1, 160, .inr (.inl fn)))]) rfl dX8_waysSeen_116 (fun H locs V => ?_)
                refine lv_aload_n hx hb dX8_waysSeen_119 rfl (lv_at hl 4 rfl) ?_
                refine lv_dup hx hb dX8_waysSeen_120 rfl ?_
                refine g_get hC V (ci := 8) uwX8 0 rfl rfl 27 (by decide) w_939 rfl rfl dX8_waysSeen_121 ?_
                refine lv_iload_n hx hb dX8_waysSeen_124 rfl (lv_at hl 3 rfl) ?_
                refine lv_iconst (v := (-1)) hx hb dX8_waysSeen_125 (by decide +kernel) ?_
                refine lv_ixor hx hb dX8_waysSeen_126 ?_
                refine lv_iand hx hb dX8_waysSeen_127 ?_
                refine g_put hC V (ci := 8) uwX8 tyX8 tyX8_ok nmX8 0 rfl rfl 27 (by decide) w_939 rfl rfl rfl rfl (Nat.le_of_ble_eq_true rfl) (ws' := [(o, .inr (8, [.int w0, .ref g1, .ref g2, .ref g3, .ref g4, .int (nI tp), .int w6, .int w7, .int w8, .int w9, .int w10, .int w11, .int w12, .int w13, .int w14, .ref g15, .int w16, .ref g17, .int w18, .int w19, .ref g20, .int w21, .ref g22, .ref g23, .ref g24, .int w25, .int (v1 &&& (nI k26)), .int (v2 &&& ((nI k26) ^^^ (-1))), .ref g28, .ref g29, .int w30, .ref g31, .ref g32, .ref g33])), (g1, .inl (T 0, 282, .inl fa)), (g32, .inl (T 0, 4, .inl fm)), (g33, .inl (T 1, 160, .inr (.inl fn)))]) rfl dX8_waysSeen_128 (fun H locs V => ?_)
                refine lv_iinc (v := (nI (k26 + 1))) (lv' := [(3, .int (nI (k26 + 1))), (2, .int (x2_ + 1)), (5, .int (nI k44)), (4, .int b4), (0, .ref o), (1, .int (nI r))]) hx hb dX8_waysSeen_131 hl (k := 3) rfl (nI_1 _) (by decide) rfl (fun ls hl => ?_)
                refine lv_goto (tgt := 26) hx hb dX8_waysSeen_134 (by decide) ?_
                exact ih_26 (k26 + 1) (x2_ + 1) (v1 &&& (nI k26)) (v2 &&& ((nI k26) ^^^ (-1))) (by omega) (by rw [hc2]; exact (sn_y (cb_e hb4 c_5 (by omega))).1) (by rw [hv1]; exact (sn_y (cb_e hb4 c_5 (by omega))).2.1) (by rw [hv2]; exact (sn_y (cb_e hb4 c_5 (by omega))).2.2.1) (by omega) _ _ _ V (lv_sub hl [0, 1, 4, 5] rfl)
              · skip
                refine lv_goto (tgt := 131) hx hb dX8_waysSeen_103 (by decide) ?_
                refine lv_iinc (v := (nI (k26 + 1))) (lv' := [(3, .int (nI (k26 + 1))), (5, .int (nI k44)), (4, .int b4), (2, .int x2_), (0, .ref o), (1, .int (nI r))]) hx hb dX8_waysSeen_131 hl (k := 2) rfl (nI_1 _) (by decide) rfl (fun ls hl => ?_)
                refine lv_goto (tgt := 26) hx hb dX8_waysSeen_134 (by decide) ?_
                exact ih_26 (k26 + 1) x2_ v1 v2 (by omega) (by rw [hc2]; exact (sn_n (hb4.1 c_5)).1) (by rw [hv1]; exact (sn_n (hb4.1 c_5)).2.1) (by rw [hv2]; exact (sn_n (hb4.1 c_5)).2.2.1) (by omega) _ _ _ V (lv_sub hl [0, 3, 4, 5] rfl)
            · skip
              have c_4 := b_nle (by omega) (by omega) c_4
              refine lv_iload hx hb dX8_waysSeen_55 (lv_at hl 1 rfl) ?_
              refine lv_if_eq (tgt := 98) hx hb dX8_waysSeen_57 (by decide) (fun c_6 => ?_) (fun c_6 => ?_)
              · skip
                refine lv_iload hx hb dX8_waysSeen_98 (lv_at hl 1 rfl) ?_
                refine lv_if_ne (tgt := 106) hx hb dX8_waysSeen_100 (by decide) (fun c_7 => ?_) (fun c_7 => ?_)
                · skip
                  refine lv_iinc (v := (x2_ + 1)) (lv' := [(2, .int (x2_ + 1)), (5, .int (nI k44)), (4, .int b4), (3, .int (nI k26)), (0, .ref o), (1, .int (nI r))]) hx hb dX8_waysSeen_106 hl (k := 3) rfl rfl (by decide) rfl (fun ls hl => ?_)
                  refine lv_aload_n hx hb dX8_waysSeen_109 rfl (lv_at hl 4 rfl) ?_
                  refine lv_dup hx hb dX8_waysSeen_110 rfl ?_
                  refine g_get hC V (ci := 8) uwX8 0 rfl rfl 26 (by decide) w_938 rfl rfl dX8_waysSeen_111 ?_
                  refine lv_iload_n hx hb dX8_waysSeen_114 rfl (lv_at hl 3 rfl) ?_
                  refine lv_iand hx hb dX8_waysSeen_115 ?_
                  refine g_put hC V (ci := 8) uwX8 tyX8 tyX8_ok nmX8 0 rfl rfl 26 (by decide) w_938 rfl rfl rfl rfl (Nat.le_of_ble_eq_true rfl) (ws' := [(o, .inr (8, [.int w0, .ref g1, .ref g2, .ref g3, .ref g4, .int (nI tp), .int w6, .int w7, .int w8, .int w9, .int w10, .int w11, .int w12, .int w13, .int w14, .ref g15, .int w16, .ref g17, .int w18, .int w19, .ref g20, .int w21, .ref g22, .ref g23, .ref g24, .int w25, .int (v1 &&& (nI k26)), .int v2, .ref g28, .ref g29, .int w30, .ref g31, .ref g32, .ref g33])), (g1, .inl (T 0, 282, .inl fa)), (g32, .inl (T 0, 4, .inl fm)), (g33, .inl (T 1, 160, .inr (.inl fn)))]) rfl dX8_waysSeen_116 (fun H locs V => ?_)
                  refine lv_aload_n hx hb dX8_waysSeen_119 rfl (lv_at hl 4 rfl) ?_
                  refine lv_dup hx hb dX8_waysSeen_120 rfl ?_
                  refine g_get hC V (ci := 8) uwX8 0 rfl rfl 27 (by decide) w_939 rfl rfl dX8_waysSeen_121 ?_
                  refine lv_iload_n hx hb dX8_waysSeen_124 rfl (lv_at hl 3 rfl) ?_
                  refine lv_iconst (v := (-1)) hx hb dX8_waysSeen_125 (by decide +kernel) ?_
                  refine lv_ixor hx hb dX8_waysSeen_126 ?_
                  refine lv_iand hx hb dX8_waysSeen_127 ?_
                  refine g_put hC V (ci := 8) uwX8 tyX8 tyX8_ok nmX8 0 rfl rfl 27 (by decide) w_939 rfl rfl rfl rfl (Nat.le_of_ble_eq_true rfl) (ws' := [(o, .inr (8, [.int w0, .ref g1, .ref g2, .ref g3, .ref g4, .int (nI tp), .int w6, .int w7, .int w8, .int w9, .int w10, .int w11, .int w12, .int w13, .int w14, .ref g15, .int w16, .ref g17, .int w18, .int w19, .ref g20, .int w21, .ref g22, .ref g23, .ref g24, .int w25, .int (v1 &&& (nI k26)), .int (v2 &&& ((nI k26) ^^^ (-1))), .ref g28, .ref g29, .int w30, .ref g31, .ref g32, .ref g33])), (g1, .inl (T 0, 282, .inl fa)), (g32, .inl (T 0, 4, .inl fm)), (g33, .inl (T 1, 160, .inr (.inl fn)))]) rfl dX8_waysSeen_128 (fun H locs V => ?_)
                  refine lv_iinc (v := (nI (k26 + 1))) (lv' := [(3, .int (nI (k26 + 1))), (2, .int (x2_ + 1)), (5, .int (nI k44)), (4, .int b4), (0, .ref o), (1, .int (nI r))]) hx hb dX8_waysSeen_131 hl (k := 3) rfl (nI_1 _) (by decide) rfl (fun ls hl => ?_)
                  refine lv_goto (tgt := 26) hx hb dX8_waysSeen_134 (by decide) ?_
                  exact ih_26 (k26 + 1) (x2_ + 1) (v1 &&& (nI k26)) (v2 &&& ((nI k26) ^^^ (-1))) (by omega) (by rw [hc2]; exact (sn_y (absurd c_6 c_7)).1) (by rw [hv1]; exact (sn_y (absurd c_6 c_7)).2.1) (by rw [hv2]; exact (sn_y (absurd c_6 c_7)).2.2.1) (by omega) _ _ _ V (lv_sub hl [0, 1, 4, 5] rfl)
                · skip
                  refine lv_goto (tgt := 131) hx hb dX8_waysSeen_103 (by decide) ?_
                  refine lv_iinc (v := (nI (k26 + 1))) (lv' := [(3, .int (nI (k26 + 1))), (5, .int (nI k44)), (4, .int b4), (2, .int x2_), (0, .ref o), (1, .int (nI r))]) hx hb dX8_waysSeen_131 hl (k := 2) rfl (nI_1 _) (by decide) rfl (fun ls hl => ?_)
                  refine lv_goto (tgt := 26) hx hb dX8_waysSeen_134 (by decide) ?_
                  exact ih_26 (k26 + 1) x2_ v1 v2 (by omega) (by rw [hc2]; exact (sn_n (hb4.1 c_7)).1) (by rw [hv1]; exact (sn_n (hb4.1 c_7)).2.1) (by rw [hv2]; exact (sn_n (hb4.1 c_7)).2.2.1) (by omega) _ _ _ V (lv_sub hl [0, 3, 4, 5] rfl)
              · skip
                refine lv_aload_n hx hb dX8_waysSeen_60 rfl (lv_at hl 4 rfl) ?_
                refine lv_iload hx hb dX8_waysSeen_61 (lv_at hl 0 rfl) ?_
                refine lv_iload_n hx hb dX8_waysSeen_63 rfl (lv_at hl 2 rfl) ?_
                refine lv_iconst (v := (nI 0)) hx hb dX8_waysSeen_64 (by decide +kernel) ?_
                refine g_callVU (nA := 3) hC V hl.1 (m_heatThen_f l D T n o k44 (nI k26) (nI 0) w0 g1 g2 g3 g4 tp w6 w7 w8 w9 w10 w11 w12 w13 w14 g15 w16 g17 w18 w19 g20 w21 g22 g23 g24 w25 v1 v2 g28 g29 w30 g31 g32 g33 fa h_a (by first | assumption | omega)) w_1126 w_1128 w_s51 w_9 w_1129 (by decide +kernel) rfl ⟨(Nat.le_of_ble_eq_true rfl), (Nat.le_of_ble_eq_true rfl)⟩ 0 (ci := 8) rfl rfl [0, 1] rfl rfl (Nat.le_of_ble_eq_true rfl) dX8_waysSeen_65 ⟨(Nat.le_of_ble_eq_true rfl), (Nat.le_of_ble_eq_true rfl)⟩ rfl (fun r w1 H locs hQ V => ?_)
                obtain ⟨z_8, rfl, rfl, f_9, f_10⟩ := hQ
                have V : gW D T A s [(o, .inr (8, [.int w0, .ref g1, .ref g2, .ref g3, .ref g4, .int (nI tp), .int w6, .int w7, .int w8, .int w9, .int w10, .int w11, .int w12, .int w13, .int w14, .ref g15, .int w16, .ref g17, .int w18, .int w19, .ref g20, .int w21, .ref g22, .ref g23, .ref g24, .int w25, .int v1, .int v2, .ref g28, .ref g29, .int w30, .ref g31, .ref g32, .ref g33])), (g1, .inl (T 0, 282, .inl fa)), (g32, .inl (T 0, 4, .inl fm)), (g33, .inl (T 1, 160, .inr (.inl fn)))] H locs := V _ [0, 0] rfl rfl rfl (by decide +kernel) rfl
                show W p l e _ s m args below meth c H locs _ _ _ (F0 m 68 ls [.int z_8])
                have hhb := hm_eq f_10
                refine lv_i2l (v := z_8.toInt64) hx hb dX8_waysSeen_68 rfl ?_
                refine lv_aload_n hx hb dX8_waysSeen_69 rfl (lv_at hl 4 rfl) ?_
                refine g_get hC V (ci := 8) uwX8 0 rfl rfl 33 (by decide) w_945 rfl rfl dX8_waysSeen_70 ?_
                refine lv_bipush (v := (nI 40)) hx hb dX8_waysSeen_73 (by decide +kernel) ?_
                refine lv_iload_n hx hb dX8_waysSeen_75 rfl (lv_at hl 5 rfl) ?_
                refine lv_imul hx hb dX8_waysSeen_76 ?_
                refine g_vi (y := (nI (40 * r))) (pk_mul _ _) ?_
                refine lv_iload hx hb dX8_waysSeen_77 (lv_at hl 0 rfl) ?_
                refine lv_iadd hx hb dX8_waysSeen_79 ?_
                refine g_vi (y := (nI ((40 * r) + k44))) (nI_add _ _) ?_
                refine g_lald hC V 3 rfl (vp_in_nI (by omega) (by omega)) (v := (fn ((40 * r) + k44))) (congrArg _ (nI_clamp (by omega))) dX8_waysSeen_80 ?_
                refine W.lcmp hx hb dX8_waysSeen_81 ?_
                refine lv_if_ne (tgt := 89) hx hb dX8_waysSeen_82 (by decide) (fun c_11 => ?_) (fun c_11 => ?_)
                · skip
                  refine lv_iconst (v := (nI 0)) hx hb dX8_waysSeen_89 (by decide +kernel) ?_
                  refine lv_istore (lv' := [(4, .int (nI 0)), (5, .int (nI k44)), (3, .int (nI k26)), (2, .int x2_), (0, .ref o), (1, .int (nI r))]) hx hb dX8_waysSeen_90 hl (by decide) rfl (fun ls hl => ?_)
                  refine lv_iinc (v := (nI (k44 + 1))) (lv' := [(5, .int (nI (k44 + 1))), (4, .int (nI 0)), (3, .int (nI k26)), (2, .int x2_), (0, .ref o), (1, .int (nI r))]) hx hb dX8_waysSeen_92 hl (k := 1) rfl (nI_1 _) (by decide) rfl (fun ls hl => ?_)
                  refine lv_goto (tgt := 44) hx hb dX8_waysSeen_95 (by decide) ?_
                  exact ih_44 (k44 + 1) (nI 0) (by omega) (cb_0 (k := k44) (by omega) (by rw [← hhb]; exact fun q => c_11 ((lg_cmp_eq _ _).mpr q))) (by omega) _ _ _ V (lv_sub hl [0, 1, 2, 3, 4, 5] rfl)
                · skip
                  refine lv_iconst (v := (nI 1)) hx hb dX8_waysSeen_85 (by decide +kernel) ?_
                  refine lv_goto (tgt := 90) hx hb dX8_waysSeen_86 (by decide) ?_
                  refine lv_istore (lv' := [(4, .int (nI 1)), (5, .int (nI k44)), (3, .int (nI k26)), (2, .int x2_), (0, .ref o), (1, .int (nI r))]) hx hb dX8_waysSeen_90 hl (by decide) rfl (fun ls hl => ?_)
                  refine lv_iinc (v := (nI (k44 + 1))) (lv' := [(5, .int (nI (k44 + 1))), (4, .int (nI 1)), (3, .int (nI k26)), (2, .int x2_), (0, .ref o), (1, .int (nI r))]) hx hb dX8_waysSeen_92 hl (k := 1) rfl (nI_1 _) (by decide) rfl (fun ls hl => ?_)
                  refine lv_goto (tgt := 44) hx hb dX8_waysSeen_95 (by decide) ?_
                  exact ih_44 (k44 + 1) (nI 1) (by omega) (cb_s hb4 c_6 (by rw [← hhb]; exact (lg_cmp_eq _ _).mp c_11)) (by omega) _ _ _ V (lv_sub hl [0, 1, 2, 3, 4, 5] rfl)
        exact L_3 _ 0 (nI 1) (by omega) cb_i (Nat.lt_succ_self _) _ _ _ V (lv_sub hl [0, 1, 2, 3, 4, 5] rfl)
  exact L_1 _ 0 (nI 0) (nI ((2 ^ n) - 1)) (nI ((2 ^ n) - 1)) (by omega) rfl rfl rfl (Nat.lt_succ_self _) _ _ _ V (lv_sub hl [0, 1, 2, 3] rfl)

def q_m_refusesSeen_f (T : Nat → ClassId) (n : Nat) (o : Nat) (row : Int32) (w0 : Int32) (g1 : Nat) (g2 : Nat) (g3 : Nat) (g4 : Nat) (tp : Nat) (w6 : Int32) (w7 : Int32) (w8 : Int32) (w9 : Int32) (w10 : Int32) (w11 : Int32) (w12 : Int32) (w13 : Int32) (w14 : Int32) (g15 : Nat) (w16 : Int32) (g17 : Nat) (w18 : Int32) (w19 : Int32) (g20 : Nat) (w21 : Int32) (g22 : Nat) (g23 : Nat) (g24 : Nat) (w25 : Int32) (w26 : Int32) (w27 : Int32) (g28 : Nat) (g29 : Nat) (w30 : Int32) (g31 : Nat) (g32 : Nat) (g33 : Nat) (fa : Nat → Int32) (fq : Nat → Int32) (fm : Nat → Int32) (fn : Nat → Int64) : Option Value → va_W → Prop := fun rr ww => (∃ (r : Nat), rr = some (.int (nI 0)) ∧ ww = [(o, .inr (8, [.int w0, .ref g1, .ref g2, .ref g3, .ref g4, .int (nI tp), .int w6, .int w7, .int w8, .int w9, .int w10, .int w11, .int w12, .int w13, .int w14, .ref g15, .int w16, .ref g17, .int w18, .int w19, .ref g20, .int w21, .ref g22, .ref g23, .ref g24, .int w25, .int w26, .int w27, .ref g28, .ref g29, .int w30, .ref g31, .ref g32, .ref g33])), (g1, .inl (T 0, 282, .inl fa)), (g31, .inl (T 0, 4, .inl fq)), (g32, .inl (T 0, 4, .inl fm)), (g33, .inl (T 1, 160, .inr (.inl fn)))] ∧ r < 4 ∧ row = nI r ∧ nI 0 = rsW n fq fm row) ∨ (∃ (z : Int32), rr = some (.int z) ∧ ww = [(o, .inr (8, [.int w0, .ref g1, .ref g2, .ref g3, .ref g4, .int (nI tp), .int w6, .int w7, .int w8, .int w9, .int w10, .int w11, .int w12, .int w13, .int w14, .ref g15, .int w16, .ref g17, .int w18, .int w19, .ref g20, .int w21, .ref g22, .ref g23, .ref g24, .int w25, .int w26, .int w27, .ref g28, .ref g29, .int w30, .ref g31, .ref g32, .ref g33])), (g1, .inl (T 0, 282, .inl fa)), (g31, .inl (T 0, 4, .inl fq)), (g32, .inl (T 0, 4, .inl fm)), (g33, .inl (T 1, 160, .inr (.inl fn)))] ∧ ¬ z = 0 ∧ z = rsW n fq fm row)
set_option maxHeartbeats 4000000 in
set_option maxRecDepth 100000 in
theorem m_refusesSeen_f (l : Launch) (D : va_G) (T : Nat → ClassId) (n : Nat) (o : Nat) (row : Int32) (w0 : Int32) (g1 : Nat) (g2 : Nat) (g3 : Nat) (g4 : Nat) (tp : Nat) (w6 : Int32) (w7 : Int32) (w8 : Int32) (w9 : Int32) (w10 : Int32) (w11 : Int32) (w12 : Int32) (w13 : Int32) (w14 : Int32) (g15 : Nat) (w16 : Int32) (g17 : Nat) (w18 : Int32) (w19 : Int32) (g20 : Nat) (w21 : Int32) (g22 : Nat) (g23 : Nat) (g24 : Nat) (w25 : Int32) (w26 : Int32) (w27 : Int32) (g28 : Nat) (g29 : Nat) (w30 : Int32) (g31 : Nat) (g32 : Nat) (g33 : Nat) (fa : Nat → Int32) (fq : Nat → Int32) (fm : Nat → Int32) (fn : Nat → Int64) (h_a : MI n fa) (h_rm : ∀ i, i < 4 → bd (fm i) 41) : Ct l yX8_refusesSeen cX8_refusesSeen 2 (some .int) 1 0 0 D T [.ref o, .int row] [(o, .inr (8, [.int w0, .ref g1, .ref g2, .ref g3, .ref g4, .int (nI tp), .int w6, .int w7, .int w8, .int w9, .int w10, .int w11, .int w12, .int w13, .int w14, .ref g15, .int w16, .ref g17, .int w18, .int w19, .ref g20, .int w21, .ref g22, .ref g23, .ref g24, .int w25, .int w26, .int w27, .ref g28, .ref g29, .int w30, .ref g31, .ref g32, .ref g33])), (g1, .inl (T 0, 282, .inl fa)), (g31, .inl (T 0, 4, .inl fq)), (g32, .inl (T 0, 4, .inl fm)), (g33, .inl (T 1, 160, .inr (.inl fn)))] (q_m_refusesSeen_f T n o row w0 g1 g2 g3 g4 tp w6 w7 w8 w9 w10 w11 w12 w13 w14 g15 w16 g17 w18 w19 g20 w21 g22 g23 g24 w25 w26 w27 g28 g29 w30 g31 g32 g33 fa fq fm fn) := by
  refine Ct.of (cc := cX8_refusesSeen) (maxL := 2) (ret := (some .int)) (by decide) (Nat.le_of_ble_eq_true rfl) ?_
  intro p e s m args below meth c A ls hC hnm V hl
  obtain ⟨hx, hb, hr, hml, hown, hts, hlocks⟩ := id hC
  generalize hH : s.heap = H at V ⊢
  clear hH
  have hl : lv_has ls 2 [(0, .ref o), (1, .int row)] := hl
  generalize hlo : ([] : List Loc) = locs at V ⊢
  clear hlo
  have ms0 := ms_rf h_a
  have hn10 := h_a.1
  refine lv_iload_n hx hb dX8_refusesSeen_0 rfl (lv_at hl 1 rfl) ?_
  refine lv_i2l (v := row.toInt64) hx hb dX8_refusesSeen_1 rfl ?_
  refine lv_lconst (v := (nI 0).toInt64) hx hb dX8_refusesSeen_2 (by decide +kernel) ?_
  refine lv_ldc2 (v := (3)) hx hb hown (hts _ w_1144) dX8_refusesSeen_3 ?_
  refine g_vl (y := (nI 3).toInt64) (by decide +kernel) ?_
  refine g_callSU (nA := 3) hC V hl.1 (m_within l D T row (nI 0) (nI 3)) w_1023 w_1024 w_9 w_1025 (by decide +kernel) rfl ⟨(Nat.le_of_ble_eq_true rfl), (Nat.le_of_ble_eq_true rfl)⟩ [] rfl rfl (Nat.le_of_ble_eq_true rfl) dX8_refusesSeen_6 ⟨(Nat.le_of_ble_eq_true rfl), (Nat.le_of_ble_eq_true rfl)⟩ rfl (fun r w1 H locs hQ V => ?_)
  rcases hQ with ⟨rfl, rfl, f_1, f_2⟩ | ⟨rfl, rfl, f_3⟩
  · have V : gW D T A s [(o, .inr (8, [.int w0, .ref g1, .ref g2, .ref g3, .ref g4, .int (nI tp), .int w6, .int w7, .int w8, .int w9, .int w10, .int w11, .int w12, .int w13, .int w14, .ref g15, .int w16, .ref g17, .int w18, .int w19, .ref g20, .int w21, .ref g22, .ref g23, .ref g24, .int w25, .int w26, .int w27, .ref g28, .ref g29, .int w30, .ref g31, .ref g32, .ref g33])), (g1, .inl (T 0, 282, .inl fa)), (g31, .inl (T 0, 4, .inl fq)), (g32, .inl (T 0, 4, .inl fm)), (g33, .inl (T 1, 160, .inr (.inl fn)))] H locs := V _ [] rfl rfl rfl (by decide +kernel) rfl
    show W p l e _ s m args below meth c H locs _ _ _ (F0 m 9 ls [.int (nI 1)])
    obtain ⟨rq, hrq1, hrq2, erq⟩ := g_rng (by decide) (by decide) f_1 f_2
    rw [erq] at hl
    obtain ⟨mz, hmz, emz⟩ := h_rm rq (by omega)
    refine lv_if_ne (tgt := 15) hx hb dX8_refusesSeen_9 (by decide) (fun _ => ?_) (fun c => absurd (show (nI 1) = 0 from c) (by decide +kernel))
    refine lv_aload_n hx hb dX8_refusesSeen_15 rfl (lv_at hl 0 rfl) ?_
    refine g_get hC V (ci := 8) uwX8 0 rfl rfl 31 (by decide) w_943 rfl rfl dX8_refusesSeen_16 ?_
    refine lv_iload_n hx hb dX8_refusesSeen_19 rfl (lv_at hl 1 rfl) ?_
    refine g_iald hC V 2 rfl (vp_in_nI (by omega) (by omega)) (v := (fq rq)) (congrArg _ (nI_clamp (by omega))) dX8_refusesSeen_20 ?_
    refine lv_iconst (v := (-1)) hx hb dX8_refusesSeen_21 (by decide +kernel) ?_
    refine lv_icmp_ne (tgt := 28) hx hb dX8_refusesSeen_22 (by decide) (fun c_4 => ?_) (fun c_4 => ?_)
    · skip
      have hq1 := c_4
      refine lv_aload_n hx hb dX8_refusesSeen_28 rfl (lv_at hl 0 rfl) ?_
      refine g_get hC V (ci := 8) uwX8 0 rfl rfl 32 (by decide) w_944 rfl rfl dX8_refusesSeen_29 ?_
      refine lv_iload_n hx hb dX8_refusesSeen_32 rfl (lv_at hl 1 rfl) ?_
      refine g_iald hC V 3 rfl (vp_in_nI (by omega) (by omega)) (v := (nI mz)) (by rw [nI_clamp (by omega)]; exact emz) dX8_refusesSeen_33 ?_
      refine lv_aload_n hx hb dX8_refusesSeen_34 rfl (lv_at hl 0 rfl) ?_
      refine g_get hC V (ci := 8) uwX8 0 rfl rfl 1 (by decide) w_913 rfl rfl dX8_refusesSeen_35 ?_
      refine lv_iconst (v := (nI 0)) hx hb dX8_refusesSeen_38 (by decide +kernel) ?_
      refine g_iald hC V 1 rfl (vp_in_nI (by decide) (by decide)) (v := (nI n)) (by rw [nI_clamp (by decide)]; first | rfl | exact h_a.2.1) dX8_refusesSeen_39 ?_
      refine lv_icmp_ne (tgt := 47) hx hb dX8_refusesSeen_40 (by decide) (fun c_5 => ?_) (fun c_5 => ?_)
      · skip
        have c_5 := b_ne (by omega) (by omega) c_5
        refine lv_bipush (v := (-7)) hx hb dX8_refusesSeen_47 (by decide +kernel) ?_
        exact g_iret (Qr := (q_m_refusesSeen_f T n o row w0 g1 g2 g3 g4 tp w6 w7 w8 w9 w10 w11 w12 w13 w14 g15 w16 g17 w18 w19 g20 w21 g22 g23 g24 w25 w26 w27 g28 g29 w30 g31 g32 g33 fa fq fm fn)) hC V ⟨(Nat.le_of_ble_eq_true rfl), (Nat.le_of_ble_eq_true rfl)⟩ (.inr ⟨(-7), rfl, rfl, (by decide +kernel), (rw_7 (rr_0 erq (by omega) hq1) erq (by omega) emz (by omega) hn10 (by omega))⟩) dX8_refusesSeen_49
      · skip
        have c_5 := b_eq (by omega) (by omega) c_5
        refine lv_iconst (v := (nI 0)) hx hb dX8_refusesSeen_43 (by decide +kernel) ?_
        refine lv_goto (tgt := 49) hx hb dX8_refusesSeen_44 (by decide) ?_
        exact g_iret (Qr := (q_m_refusesSeen_f T n o row w0 g1 g2 g3 g4 tp w6 w7 w8 w9 w10 w11 w12 w13 w14 g15 w16 g17 w18 w19 g20 w21 g22 g23 g24 w25 w26 w27 g28 g29 w30 g31 g32 g33 fa fq fm fn)) hC V ⟨(Nat.le_of_ble_eq_true rfl), (Nat.le_of_ble_eq_true rfl)⟩ (.inl ⟨rq, rfl, rfl, (by omega), erq, (rw_y (rr_0 erq (by omega) hq1) erq (by omega) emz (by omega))⟩) dX8_refusesSeen_49
    · skip
      have hq0 := c_4
      refine lv_bipush (v := (-6)) hx hb dX8_refusesSeen_25 (by decide +kernel) ?_
      exact g_iret (Qr := (q_m_refusesSeen_f T n o row w0 g1 g2 g3 g4 tp w6 w7 w8 w9 w10 w11 w12 w13 w14 g15 w16 g17 w18 w19 g20 w21 g22 g23 g24 w25 w26 w27 g28 g29 w30 g31 g32 g33 fa fq fm fn)) hC V ⟨(Nat.le_of_ble_eq_true rfl), (Nat.le_of_ble_eq_true rfl)⟩ (.inr ⟨(-6), rfl, rfl, (by decide +kernel), (rw_r (rr_6 erq (by omega) hq0) (by decide +kernel))⟩) dX8_refusesSeen_27
  · have V : gW D T A s [(o, .inr (8, [.int w0, .ref g1, .ref g2, .ref g3, .ref g4, .int (nI tp), .int w6, .int w7, .int w8, .int w9, .int w10, .int w11, .int w12, .int w13, .int w14, .ref g15, .int w16, .ref g17, .int w18, .int w19, .ref g20, .int w21, .ref g22, .ref g23, .ref g24, .int w25, .int w26, .int w27, .ref g28, .ref g29, .int w30, .ref g31, .ref g32, .ref g33])), (g1, .inl (T 0, 282, .inl fa)), (g31, .inl (T 0, 4, .inl fq)), (g32, .inl (T 0, 4, .inl fm)), (g33, .inl (T 1, 160, .inr (.inl fn)))] H locs := V _ [] rfl rfl rfl (by decide +kernel) rfl
    show W p l e _ s m args below meth c H locs _ _ _ (F0 m 9 ls [.int (nI 0)])
    have r0 : (row < 0 ∨ nI 4 ≤ row) := nv_r rfl (by decide) f_3
    refine lv_if_ne (tgt := 15) hx hb dX8_refusesSeen_9 (by decide) (fun c => absurd (show (nI 0) = 0 by decide +kernel) c) (fun _ => ?_)
    refine lv_bipush (v := (-2)) hx hb dX8_refusesSeen_12 (by decide +kernel) ?_
    exact g_iret (Qr := (q_m_refusesSeen_f T n o row w0 g1 g2 g3 g4 tp w6 w7 w8 w9 w10 w11 w12 w13 w14 g15 w16 g17 w18 w19 g20 w21 g22 g23 g24 w25 w26 w27 g28 g29 w30 g31 g32 g33 fa fq fm fn)) hC V ⟨(Nat.le_of_ble_eq_true rfl), (Nat.le_of_ble_eq_true rfl)⟩ (.inr ⟨(-2), rfl, rfl, (by decide +kernel), (rw_r (rr_2 r0) (by decide +kernel))⟩) dX8_refusesSeen_14

def q_m_seen_f (T : Nat → ClassId) (n : Nat) (o : Nat) (row : Int32) (w0 : Int32) (g1 : Nat) (g2 : Nat) (g3 : Nat) (g4 : Nat) (tp : Nat) (w6 : Int32) (w7 : Int32) (w8 : Int32) (w9 : Int32) (w10 : Int32) (w11 : Int32) (w12 : Int32) (w13 : Int32) (w14 : Int32) (g15 : Nat) (w16 : Int32) (g17 : Nat) (w18 : Int32) (w19 : Int32) (g20 : Nat) (w21 : Int32) (g22 : Nat) (g23 : Nat) (g24 : Nat) (w25 : Int32) (w26 : Int32) (w27 : Int32) (g28 : Nat) (g29 : Nat) (w30 : Int32) (g31 : Nat) (g32 : Nat) (g33 : Nat) (fa : Nat → Int32) (fq : Nat → Int32) (fm : Nat → Int32) (fn : Nat → Int64) : Option Value → va_W → Prop := fun rr ww => (∃ (z : Int32) (x1 : Int32) (x2 : Int32), rr = some (.int z) ∧ ww = [(o, .inr (8, [.int (nI 0), .ref g1, .ref g2, .ref g3, .ref g4, .int (nI tp), .int w6, .int w7, .int w8, .int w9, .int w10, .int w11, .int w12, .int w13, .int w14, .ref g15, .int w16, .ref g17, .int w18, .int w19, .ref g20, .int w21, .ref g22, .ref g23, .ref g24, .int w25, .int x1, .int x2, .ref g28, .ref g29, .int w30, .ref g31, .ref g32, .ref g33])), (g1, .inl (T 0, 282, .inl fa)), (g31, .inl (T 0, 4, .inl fq)), (g32, .inl (T 0, 4, .inl fm)), (g33, .inl (T 1, 160, .inr (.inl fn)))] ∧ z = seA n fa fq fm fn row)
set_option maxHeartbeats 4000000 in
set_option maxRecDepth 100000 in
theorem m_seen_f (l : Launch) (D : va_G) (T : Nat → ClassId) (n : Nat) (o : Nat) (row : Int32) (w0 : Int32) (g1 : Nat) (g2 : Nat) (g3 : Nat) (g4 : Nat) (tp : Nat) (w6 : Int32) (w7 : Int32) (w8 : Int32) (w9 : Int32) (w10 : Int32) (w11 : Int32) (w12 : Int32) (w13 : Int32) (w14 : Int32) (g15 : Nat) (w16 : Int32) (g17 : Nat) (w18 : Int32) (w19 : Int32) (g20 : Nat) (w21 : Int32) (g22 : Nat) (g23 : Nat) (g24 : Nat) (w25 : Int32) (w26 : Int32) (w27 : Int32) (g28 : Nat) (g29 : Nat) (w30 : Int32) (g31 : Nat) (g32 : Nat) (g33 : Nat) (fa : Nat → Int32) (fq : Nat → Int32) (fm : Nat → Int32) (fn : Nat → Int64) (h_a : MI n fa) (h_rm : ∀ i, i < 4 → bd (fm i) 41) : Ct l yX8_seen cX8_seen 3 (some .int) 3 0 0 D T [.ref o, .int row] [(o, .inr (8, [.int w0, .ref g1, .ref g2, .ref g3, .ref g4, .int (nI tp), .int w6, .int w7, .int w8, .int w9, .int w10, .int w11, .int w12, .int w13, .int w14, .ref g15, .int w16, .ref g17, .int w18, .int w19, .ref g20, .int w21, .ref g22, .ref g23, .ref g24, .int w25, .int w26, .int w27, .ref g28, .ref g29, .int w30, .ref g31, .ref g32, .ref g33])), (g1, .inl (T 0, 282, .inl fa)), (g31, .inl (T 0, 4, .inl fq)), (g32, .inl (T 0, 4, .inl fm)), (g33, .inl (T 1, 160, .inr (.inl fn)))] (q_m_seen_f T n o row w0 g1 g2 g3 g4 tp w6 w7 w8 w9 w10 w11 w12 w13 w14 g15 w16 g17 w18 w19 g20 w21 g22 g23 g24 w25 w26 w27 g28 g29 w30 g31 g32 g33 fa fq fm fn) := by
  refine Ct.of (cc := cX8_seen) (maxL := 3) (ret := (some .int)) (by decide) (Nat.le_of_ble_eq_true rfl) ?_
  intro p e s m args below meth c A ls hC hnm V hl
  obtain ⟨hx, hb, hr, hml, hown, hts, hlocks⟩ := id hC
  generalize hH : s.heap = H at V ⊢
  clear hH
  have hl : lv_has ls 3 [(0, .ref o), (1, .int row)] := hl
  generalize hlo : ([] : List Loc) = locs at V ⊢
  clear hlo
  have ms0 := ms_rf h_a
  have hn10 := h_a.1
  refine lv_aload_n hx hb dX8_seen_0 rfl (lv_at hl 0 rfl) ?_
  refine lv_iconst (v := (nI 0)) hx hb dX8_seen_1 (by decide +kernel) ?_
  refine g_put hC V (ci := 8) uwX8 tyX8 tyX8_ok nmX8 0 rfl rfl 0 (by decide) w_912 rfl rfl rfl rfl (Nat.le_of_ble_eq_true rfl) (ws' := [(o, .inr (8, [.int (nI 0), .ref g1, .ref g2, .ref g3, .ref g4, .int (nI tp), .int w6, .int w7, .int w8, .int w9, .int w10, .int w11, .int w12, .int w13, .int w14, .ref g15, .int w16, .ref g17, .int w18, .int w19, .ref g20, .int w21, .ref g22, .ref g23, .ref g24, .int w25, .int w26, .int w27, .ref g28, .ref g29, .int w30, .ref g31, .ref g32, .ref g33])), (g1, .inl (T 0, 282, .inl fa)), (g31, .inl (T 0, 4, .inl fq)), (g32, .inl (T 0, 4, .inl fm)), (g33, .inl (T 1, 160, .inr (.inl fn)))]) rfl dX8_seen_2 (fun H locs V => ?_)
  refine lv_aload_n hx hb dX8_seen_5 rfl (lv_at hl 0 rfl) ?_
  refine lv_iload_n hx hb dX8_seen_6 rfl (lv_at hl 1 rfl) ?_
  refine g_callV (wr := []) (nA := 1) hC V hl.1 (m_refusesSeen_f l D T n o row (nI 0) g1 g2 g3 g4 tp w6 w7 w8 w9 w10 w11 w12 w13 w14 g15 w16 g17 w18 w19 g20 w21 g22 g23 g24 w25 w26 w27 g28 g29 w30 g31 g32 g33 fa fq fm fn h_a (by first | assumption | omega)) w_1304 w_1306 w_s73 w_9 w_1307 (by decide +kernel) rfl ⟨(Nat.le_of_ble_eq_true rfl), (Nat.le_of_ble_eq_true rfl)⟩ 0 (ci := 8) rfl rfl [0, 1, 2, 3, 4] [] rfl rfl rfl rfl (by decide) (Nat.le_of_ble_eq_true rfl) dX8_seen_7 ⟨(Nat.le_of_ble_eq_true rfl), (Nat.le_of_ble_eq_true rfl)⟩ rfl (fun r w1 H locs hQ V => ?_)
  rcases hQ with ⟨r_1, rfl, rfl, f_2, f_3, f_4⟩ | ⟨z_5, rfl, rfl, f_6, f_7⟩
  · have V : gW D T A s [(o, .inr (8, [.int (nI 0), .ref g1, .ref g2, .ref g3, .ref g4, .int (nI tp), .int w6, .int w7, .int w8, .int w9, .int w10, .int w11, .int w12, .int w13, .int w14, .ref g15, .int w16, .ref g17, .int w18, .int w19, .ref g20, .int w21, .ref g22, .ref g23, .ref g24, .int w25, .int w26, .int w27, .ref g28, .ref g29, .int w30, .ref g31, .ref g32, .ref g33])), (g1, .inl (T 0, 282, .inl fa)), (g31, .inl (T 0, 4, .inl fq)), (g32, .inl (T 0, 4, .inl fm)), (g33, .inl (T 1, 160, .inr (.inl fn)))] H locs := V
    show W p l e _ s m args below meth c H locs _ _ _ (F0 m 10 ls [.int (nI 0)])
    rw [f_3] at hl
    refine lv_istore_n (lv' := [(2, .int (nI 0)), (0, .ref o), (1, .int (nI r_1))]) hx hb dX8_seen_10 rfl hl (by decide) rfl (fun ls hl => ?_)
    refine lv_iload_n hx hb dX8_seen_11 rfl (lv_at hl 0 rfl) ?_
    refine lv_if_eq (tgt := 19) hx hb dX8_seen_12 (by decide) (fun _ => ?_) (fun c => absurd (show (nI 0) = 0 by decide +kernel) c)
    refine lv_aload_n hx hb dX8_seen_19 rfl (lv_at hl 1 rfl) ?_
    refine lv_iload_n hx hb dX8_seen_20 rfl (lv_at hl 2 rfl) ?_
    refine g_callVU (nA := 1) hC V hl.1 (m_waysSeen_f l D T n o r_1 (nI 0) g1 g2 g3 g4 tp w6 w7 w8 w9 w10 w11 w12 w13 w14 g15 w16 g17 w18 w19 g20 w21 g22 g23 g24 w25 w26 w27 g28 g29 w30 g31 g32 g33 fa fm fn h_a (by first | assumption | omega)) w_1308 w_1310 w_s74 w_9 w_1311 (by decide +kernel) rfl ⟨(Nat.le_of_ble_eq_true rfl), (Nat.le_of_ble_eq_true rfl)⟩ 0 (ci := 8) rfl rfl [0, 1, 3, 4] rfl rfl (Nat.le_of_ble_eq_true rfl) dX8_seen_21 ⟨(Nat.le_of_ble_eq_true rfl), (Nat.le_of_ble_eq_true rfl)⟩ rfl (fun r w1 H locs hQ V => ?_)
    obtain ⟨z_8, x1_9, x2_10, rfl, rfl, f_11, f_12, f_13⟩ := hQ
    have V : gW D T A s [(o, .inr (8, [.int (nI 0), .ref g1, .ref g2, .ref g3, .ref g4, .int (nI tp), .int w6, .int w7, .int w8, .int w9, .int w10, .int w11, .int w12, .int w13, .int w14, .ref g15, .int w16, .ref g17, .int w18, .int w19, .ref g20, .int w21, .ref g22, .ref g23, .ref g24, .int w25, .int x1_9, .int x2_10, .ref g28, .ref g29, .int w30, .ref g31, .ref g32, .ref g33])), (g1, .inl (T 0, 282, .inl fa)), (g31, .inl (T 0, 4, .inl fq)), (g32, .inl (T 0, 4, .inl fm)), (g33, .inl (T 1, 160, .inr (.inl fn)))] H locs := V _ [0, 0, 1, 0] rfl rfl rfl (by decide +kernel) rfl
    show W p l e _ s m args below meth c H locs _ _ _ (F0 m 24 ls [.int z_8])
    exact g_iret (Qr := (q_m_seen_f T n o row w0 g1 g2 g3 g4 tp w6 w7 w8 w9 w10 w11 w12 w13 w14 g15 w16 g17 w18 w19 g20 w21 g22 g23 g24 w25 w26 w27 g28 g29 w30 g31 g32 g33 fa fq fm fn)) hC V ⟨(Nat.le_of_ble_eq_true rfl), (Nat.le_of_ble_eq_true rfl)⟩ ⟨z_8, x1_9, x2_10, rfl, rfl, (f_11.trans (se_y f_4 f_3 f_2))⟩ dX8_seen_24
  · have V : gW D T A s [(o, .inr (8, [.int (nI 0), .ref g1, .ref g2, .ref g3, .ref g4, .int (nI tp), .int w6, .int w7, .int w8, .int w9, .int w10, .int w11, .int w12, .int w13, .int w14, .ref g15, .int w16, .ref g17, .int w18, .int w19, .ref g20, .int w21, .ref g22, .ref g23, .ref g24, .int w25, .int w26, .int w27, .ref g28, .ref g29, .int w30, .ref g31, .ref g32, .ref g33])), (g1, .inl (T 0, 282, .inl fa)), (g31, .inl (T 0, 4, .inl fq)), (g32, .inl (T 0, 4, .inl fm)), (g33, .inl (T 1, 160, .inr (.inl fn)))] H locs := V
    show W p l e _ s m args below meth c H locs _ _ _ (F0 m 10 ls [.int z_5])
    refine lv_istore_n (lv' := [(2, .int z_5), (0, .ref o), (1, .int row)]) hx hb dX8_seen_10 rfl hl (by decide) rfl (fun ls hl => ?_)
    refine lv_iload_n hx hb dX8_seen_11 rfl (lv_at hl 0 rfl) ?_
    refine lv_if_eq (tgt := 19) hx hb dX8_seen_12 (by decide) (fun c_14 => ?_) (fun c_14 => ?_)
    · skip
      exact (absurd c_14 (by assumption) : False).elim
    · skip
      refine lv_iload_n hx hb dX8_seen_15 rfl (lv_at hl 0 rfl) ?_
      refine lv_goto (tgt := 24) hx hb dX8_seen_16 (by decide) ?_
      exact g_iret (Qr := (q_m_seen_f T n o row w0 g1 g2 g3 g4 tp w6 w7 w8 w9 w10 w11 w12 w13 w14 g15 w16 g17 w18 w19 g20 w21 g22 g23 g24 w25 w26 w27 g28 g29 w30 g31 g32 g33 fa fq fm fn)) hC V ⟨(Nat.le_of_ble_eq_true rfl), (Nat.le_of_ble_eq_true rfl)⟩ ⟨z_5, w26, w27, rfl, rfl, (se_n f_7 f_6)⟩ dX8_seen_24

def q_m_sure_f (T : Nat → ClassId) (n : Nat) (o : Nat) (row : Int32) (pu : Int32) (w0 : Int32) (g1 : Nat) (g2 : Nat) (g3 : Nat) (g4 : Nat) (tp : Nat) (w6 : Int32) (w7 : Int32) (w8 : Int32) (w9 : Int32) (w10 : Int32) (w11 : Int32) (w12 : Int32) (w13 : Int32) (w14 : Int32) (g15 : Nat) (w16 : Int32) (g17 : Nat) (w18 : Int32) (w19 : Int32) (g20 : Nat) (w21 : Int32) (g22 : Nat) (g23 : Nat) (g24 : Nat) (w25 : Int32) (w26 : Int32) (w27 : Int32) (g28 : Nat) (g29 : Nat) (w30 : Int32) (g31 : Nat) (g32 : Nat) (g33 : Nat) (fa : Nat → Int32) (fq : Nat → Int32) (fm : Nat → Int32) (fn : Nat → Int64) : Option Value → va_W → Prop := fun rr ww => (∃ (z : Int32) (x1 : Int32) (x2 : Int32), rr = some (.int z) ∧ ww = [(o, .inr (8, [.int (nI 0), .ref g1, .ref g2, .ref g3, .ref g4, .int (nI tp), .int w6, .int w7, .int w8, .int w9, .int w10, .int w11, .int w12, .int w13, .int w14, .ref g15, .int w16, .ref g17, .int w18, .int w19, .ref g20, .int w21, .ref g22, .ref g23, .ref g24, .int w25, .int x1, .int x2, .ref g28, .ref g29, .int w30, .ref g31, .ref g32, .ref g33])), (g1, .inl (T 0, 282, .inl fa)), (g31, .inl (T 0, 4, .inl fq)), (g32, .inl (T 0, 4, .inl fm)), (g33, .inl (T 1, 160, .inr (.inl fn)))] ∧ z = suA n fa fq fm fn row pu)
set_option maxHeartbeats 4000000 in
set_option maxRecDepth 100000 in
theorem m_sure_f (l : Launch) (D : va_G) (T : Nat → ClassId) (n : Nat) (o : Nat) (row : Int32) (pu : Int32) (w0 : Int32) (g1 : Nat) (g2 : Nat) (g3 : Nat) (g4 : Nat) (tp : Nat) (w6 : Int32) (w7 : Int32) (w8 : Int32) (w9 : Int32) (w10 : Int32) (w11 : Int32) (w12 : Int32) (w13 : Int32) (w14 : Int32) (g15 : Nat) (w16 : Int32) (g17 : Nat) (w18 : Int32) (w19 : Int32) (g20 : Nat) (w21 : Int32) (g22 : Nat) (g23 : Nat) (g24 : Nat) (w25 : Int32) (w26 : Int32) (w27 : Int32) (g28 : Nat) (g29 : Nat) (w30 : Int32) (g31 : Nat) (g32 : Nat) (g33 : Nat) (fa : Nat → Int32) (fq : Nat → Int32) (fm : Nat → Int32) (fn : Nat → Int64) (h_a : MI n fa) (h_rm : ∀ i, i < 4 → bd (fm i) 41) : Ct l yX8_sure cX8_sure 4 (some .int) 3 0 0 D T [.ref o, .int row, .int pu] [(o, .inr (8, [.int w0, .ref g1, .ref g2, .ref g3, .ref g4, .int (nI tp), .int w6, .int w7, .int w8, .int w9, .int w10, .int w11, .int w12, .int w13, .int w14, .ref g15, .int w16, .ref g17, .int w18, .int w19, .ref g20, .int w21, .ref g22, .ref g23, .ref g24, .int w25, .int w26, .int w27, .ref g28, .ref g29, .int w30, .ref g31, .ref g32, .ref g33])), (g1, .inl (T 0, 282, .inl fa)), (g31, .inl (T 0, 4, .inl fq)), (g32, .inl (T 0, 4, .inl fm)), (g33, .inl (T 1, 160, .inr (.inl fn)))] (q_m_sure_f T n o row pu w0 g1 g2 g3 g4 tp w6 w7 w8 w9 w10 w11 w12 w13 w14 g15 w16 g17 w18 w19 g20 w21 g22 g23 g24 w25 w26 w27 g28 g29 w30 g31 g32 g33 fa fq fm fn) := by
  refine Ct.of (cc := cX8_sure) (maxL := 4) (ret := (some .int)) (by decide) (Nat.le_of_ble_eq_true rfl) ?_
  intro p e s m args below meth c A ls hC hnm V hl
  obtain ⟨hx, hb, hr, hml, hown, hts, hlocks⟩ := id hC
  generalize hH : s.heap = H at V ⊢
  clear hH
  have hl : lv_has ls 4 [(0, .ref o), (1, .int row), (2, .int pu)] := hl
  generalize hlo : ([] : List Loc) = locs at V ⊢
  clear hlo
  have ms0 := ms_rf h_a
  have hn10 := h_a.1
  refine lv_aload_n hx hb dX8_sure_0 rfl (lv_at hl 0 rfl) ?_
  refine lv_iconst (v := (nI 0)) hx hb dX8_sure_1 (by decide +kernel) ?_
  refine g_put hC V (ci := 8) uwX8 tyX8 tyX8_ok nmX8 0 rfl rfl 0 (by decide) w_912 rfl rfl rfl rfl (Nat.le_of_ble_eq_true rfl) (ws' := [(o, .inr (8, [.int (nI 0), .ref g1, .ref g2, .ref g3, .ref g4, .int (nI tp), .int w6, .int w7, .int w8, .int w9, .int w10, .int w11, .int w12, .int w13, .int w14, .ref g15, .int w16, .ref g17, .int w18, .int w19, .ref g20, .int w21, .ref g22, .ref g23, .ref g24, .int w25, .int w26, .int w27, .ref g28, .ref g29, .int w30, .ref g31, .ref g32, .ref g33])), (g1, .inl (T 0, 282, .inl fa)), (g31, .inl (T 0, 4, .inl fq)), (g32, .inl (T 0, 4, .inl fm)), (g33, .inl (T 1, 160, .inr (.inl fn)))]) rfl dX8_sure_2 (fun H locs V => ?_)
  refine lv_aload_n hx hb dX8_sure_5 rfl (lv_at hl 0 rfl) ?_
  refine lv_iload_n hx hb dX8_sure_6 rfl (lv_at hl 1 rfl) ?_
  refine g_callV (wr := []) (nA := 1) hC V hl.1 (m_refusesSeen_f l D T n o row (nI 0) g1 g2 g3 g4 tp w6 w7 w8 w9 w10 w11 w12 w13 w14 g15 w16 g17 w18 w19 g20 w21 g22 g23 g24 w25 w26 w27 g28 g29 w30 g31 g32 g33 fa fq fm fn h_a (by first | assumption | omega)) w_1304 w_1306 w_s73 w_9 w_1307 (by decide +kernel) rfl ⟨(Nat.le_of_ble_eq_true rfl), (Nat.le_of_ble_eq_true rfl)⟩ 0 (ci := 8) rfl rfl [0, 1, 2, 3, 4] [] rfl rfl rfl rfl (by decide) (Nat.le_of_ble_eq_true rfl) dX8_sure_7 ⟨(Nat.le_of_ble_eq_true rfl), (Nat.le_of_ble_eq_true rfl)⟩ rfl (fun r w1 H locs hQ V => ?_)
  rcases hQ with ⟨r_1, rfl, rfl, f_2, f_3, f_4⟩ | ⟨z_5, rfl, rfl, f_6, f_7⟩
  · have V : gW D T A s [(o, .inr (8, [.int (nI 0), .ref g1, .ref g2, .ref g3, .ref g4, .int (nI tp), .int w6, .int w7, .int w8, .int w9, .int w10, .int w11, .int w12, .int w13, .int w14, .ref g15, .int w16, .ref g17, .int w18, .int w19, .ref g20, .int w21, .ref g22, .ref g23, .ref g24, .int w25, .int w26, .int w27, .ref g28, .ref g29, .int w30, .ref g31, .ref g32, .ref g33])), (g1, .inl (T 0, 282, .inl fa)), (g31, .inl (T 0, 4, .inl fq)), (g32, .inl (T 0, 4, .inl fm)), (g33, .inl (T 1, 160, .inr (.inl fn)))] H locs := V
    show W p l e _ s m args below meth c H locs _ _ _ (F0 m 10 ls [.int (nI 0)])
    rw [f_3] at hl
    refine lv_istore_n (lv' := [(3, .int (nI 0)), (0, .ref o), (1, .int (nI r_1)), (2, .int pu)]) hx hb dX8_sure_10 rfl hl (by decide) rfl (fun ls hl => ?_)
    refine lv_iload_n hx hb dX8_sure_11 rfl (lv_at hl 0 rfl) ?_
    refine lv_if_eq (tgt := 17) hx hb dX8_sure_12 (by decide) (fun _ => ?_) (fun c => absurd (show (nI 0) = 0 by decide +kernel) c)
    refine lv_aload_n hx hb dX8_sure_17 rfl (lv_at hl 1 rfl) ?_
    refine lv_iload_n hx hb dX8_sure_18 rfl (lv_at hl 2 rfl) ?_
    refine g_callVU (nA := 1) hC V hl.1 (m_waysSeen_f l D T n o r_1 (nI 0) g1 g2 g3 g4 tp w6 w7 w8 w9 w10 w11 w12 w13 w14 g15 w16 g17 w18 w19 g20 w21 g22 g23 g24 w25 w26 w27 g28 g29 w30 g31 g32 g33 fa fm fn h_a (by first | assumption | omega)) w_1308 w_1310 w_s74 w_9 w_1311 (by decide +kernel) rfl ⟨(Nat.le_of_ble_eq_true rfl), (Nat.le_of_ble_eq_true rfl)⟩ 0 (ci := 8) rfl rfl [0, 1, 3, 4] rfl rfl (Nat.le_of_ble_eq_true rfl) dX8_sure_19 ⟨(Nat.le_of_ble_eq_true rfl), (Nat.le_of_ble_eq_true rfl)⟩ rfl (fun r w1 H locs hQ V => ?_)
    obtain ⟨z_8, x1_9, x2_10, rfl, rfl, f_11, f_12, f_13⟩ := hQ
    have V : gW D T A s [(o, .inr (8, [.int (nI 0), .ref g1, .ref g2, .ref g3, .ref g4, .int (nI tp), .int w6, .int w7, .int w8, .int w9, .int w10, .int w11, .int w12, .int w13, .int w14, .ref g15, .int w16, .ref g17, .int w18, .int w19, .ref g20, .int w21, .ref g22, .ref g23, .ref g24, .int w25, .int x1_9, .int x2_10, .ref g28, .ref g29, .int w30, .ref g31, .ref g32, .ref g33])), (g1, .inl (T 0, 282, .inl fa)), (g31, .inl (T 0, 4, .inl fq)), (g32, .inl (T 0, 4, .inl fm)), (g33, .inl (T 1, 160, .inr (.inl fn)))] H locs := V _ [0, 0, 1, 0] rfl rfl rfl (by decide +kernel) rfl
    show W p l e _ s m args below meth c H locs _ _ _ (F0 m 22 ls [.int z_8])
    refine lv_if_ne (tgt := 29) hx hb dX8_sure_22 (by decide) (fun c_14 => ?_) (fun c_14 => ?_)
    · skip
      refine lv_iload_n hx hb dX8_sure_29 rfl (lv_at hl 3 rfl) ?_
      refine lv_if_eq (tgt := 40) hx hb dX8_sure_30 (by decide) (fun c_15 => ?_) (fun c_15 => ?_)
      · skip
        refine lv_aload_n hx hb dX8_sure_40 rfl (lv_at hl 1 rfl) ?_
        refine g_get hC V (ci := 8) uwX8 0 rfl rfl 27 (by decide) w_939 rfl rfl dX8_sure_41 ?_
        exact g_iret (Qr := (q_m_sure_f T n o row pu w0 g1 g2 g3 g4 tp w6 w7 w8 w9 w10 w11 w12 w13 w14 g15 w16 g17 w18 w19 g20 w21 g22 g23 g24 w25 w26 w27 g28 g29 w30 g31 g32 g33 fa fq fm fn)) hC V ⟨(Nat.le_of_ble_eq_true rfl), (Nat.le_of_ble_eq_true rfl)⟩ ⟨x2_10, x1_9, x2_10, rfl, rfl, (f_13.trans (su_m f_4 f_3 f_2 (fun q => c_14 (f_11.trans q)) c_15))⟩ dX8_sure_44
      · skip
        refine lv_aload_n hx hb dX8_sure_33 rfl (lv_at hl 1 rfl) ?_
        refine g_get hC V (ci := 8) uwX8 0 rfl rfl 26 (by decide) w_938 rfl rfl dX8_sure_34 ?_
        refine lv_goto (tgt := 44) hx hb dX8_sure_37 (by decide) ?_
        exact g_iret (Qr := (q_m_sure_f T n o row pu w0 g1 g2 g3 g4 tp w6 w7 w8 w9 w10 w11 w12 w13 w14 g15 w16 g17 w18 w19 g20 w21 g22 g23 g24 w25 w26 w27 g28 g29 w30 g31 g32 g33 fa fq fm fn)) hC V ⟨(Nat.le_of_ble_eq_true rfl), (Nat.le_of_ble_eq_true rfl)⟩ ⟨x1_9, x1_9, x2_10, rfl, rfl, (f_12.trans (su_y f_4 f_3 f_2 (fun q => c_14 (f_11.trans q)) c_15))⟩ dX8_sure_44
    · skip
      refine lv_iconst (v := (nI 0)) hx hb dX8_sure_25 (by decide +kernel) ?_
      refine lv_goto (tgt := 44) hx hb dX8_sure_26 (by decide) ?_
      exact g_iret (Qr := (q_m_sure_f T n o row pu w0 g1 g2 g3 g4 tp w6 w7 w8 w9 w10 w11 w12 w13 w14 g15 w16 g17 w18 w19 g20 w21 g22 g23 g24 w25 w26 w27 g28 g29 w30 g31 g32 g33 fa fq fm fn)) hC V ⟨(Nat.le_of_ble_eq_true rfl), (Nat.le_of_ble_eq_true rfl)⟩ ⟨(nI 0), x1_9, x2_10, rfl, rfl, (su_0 f_4 f_3 f_2 (f_11.symm.trans c_14))⟩ dX8_sure_44
  · have V : gW D T A s [(o, .inr (8, [.int (nI 0), .ref g1, .ref g2, .ref g3, .ref g4, .int (nI tp), .int w6, .int w7, .int w8, .int w9, .int w10, .int w11, .int w12, .int w13, .int w14, .ref g15, .int w16, .ref g17, .int w18, .int w19, .ref g20, .int w21, .ref g22, .ref g23, .ref g24, .int w25, .int w26, .int w27, .ref g28, .ref g29, .int w30, .ref g31, .ref g32, .ref g33])), (g1, .inl (T 0, 282, .inl fa)), (g31, .inl (T 0, 4, .inl fq)), (g32, .inl (T 0, 4, .inl fm)), (g33, .inl (T 1, 160, .inr (.inl fn)))] H locs := V
    show W p l e _ s m args below meth c H locs _ _ _ (F0 m 10 ls [.int z_5])
    refine lv_istore_n (lv' := [(3, .int z_5), (0, .ref o), (1, .int row), (2, .int pu)]) hx hb dX8_sure_10 rfl hl (by decide) rfl (fun ls hl => ?_)
    refine lv_iload_n hx hb dX8_sure_11 rfl (lv_at hl 0 rfl) ?_
    refine lv_if_eq (tgt := 17) hx hb dX8_sure_12 (by decide) (fun c_16 => ?_) (fun c_16 => ?_)
    · skip
      exact (absurd c_16 (by assumption) : False).elim
    · skip
      refine lv_iload_n hx hb dX8_sure_15 rfl (lv_at hl 0 rfl) ?_
      exact g_iret (Qr := (q_m_sure_f T n o row pu w0 g1 g2 g3 g4 tp w6 w7 w8 w9 w10 w11 w12 w13 w14 g15 w16 g17 w18 w19 g20 w21 g22 g23 g24 w25 w26 w27 g28 g29 w30 g31 g32 g33 fa fq fm fn)) hC V ⟨(Nat.le_of_ble_eq_true rfl), (Nat.le_of_ble_eq_true rfl)⟩ ⟨z_5, w26, w27, rfl, rfl, (su_n f_7 f_6)⟩ dX8_sure_16
