def q_m_waysSeen (T : Nat → ClassId) (n : Nat) (o : Nat) (r : Nat) (w0 : Int32) (g1 : Nat) (g2 : Nat) (g3 : Nat) (g4 : Nat) (tp : Nat) (w6 : Int32) (w7 : Int32) (w8 : Int32) (w9 : Int32) (w10 : Int32) (w11 : Int32) (w12 : Int32) (w13 : Int32) (w14 : Int32) (g15 : Nat) (w16 : Int32) (g17 : Nat) (w18 : Int32) (w19 : Int32) (g20 : Nat) (w21 : Int32) (g22 : Nat) (g23 : Nat) (g24 : Nat) (w25 : Int32) (w26 : Int32) (w27 : Int32) (g28 : Nat) (g29 : Nat) (w30 : Int32) (g31 : Nat) (g32 : Nat) (g33 : Nat) (fa : Nat → Int32) (fm : Nat → Int32) (fn : Nat → Int64) : Option Value → va_W → Prop := fun rr ww => (∃ (z : Int32) (x1 : Int32) (x2 : Int32), rr = some (.int z) ∧ ww = [(o, .inr (8, [.int w0, .ref g1, .ref g2, .ref g3, .ref g4, .int (nI tp), .int w6, .int w7, .int w8, .int w9, .int w10, .int w11, .int w12, .int w13, .int w14, .ref g15, .int w16, .ref g17, .int w18, .int w19, .ref g20, .int w21, .ref g22, .ref g23, .ref g24, .int w25, .int x1, .int x2, .ref g28, .ref g29, .int w30, .ref g31, .ref g32, .ref g33])), (g1, .inl (T 0, 282, .inl fa)), (g32, .inl (T 0, 4, .inl fm)), (g33, .inl (T 1, 160, .inr (.inl fn)))])
set_option maxHeartbeats 4000000 in
set_option maxRecDepth 100000 in
theorem m_waysSeen (l : Launch) (D : va_G) (T : Nat → ClassId) (n : Nat) (o : Nat) (r : Nat) (w0 : Int32) (g1 : Nat) (g2 : Nat) (g3 : Nat) (g4 : Nat) (tp : Nat) (w6 : Int32) (w7 : Int32) (w8 : Int32) (w9 : Int32) (w10 : Int32) (w11 : Int32) (w12 : Int32) (w13 : Int32) (w14 : Int32) (g15 : Nat) (w16 : Int32) (g17 : Nat) (w18 : Int32) (w19 : Int32) (g20 : Nat) (w21 : Int32) (g22 : Nat) (g23 : Nat) (g24 : Nat) (w25 : Int32) (w26 : Int32) (w27 : Int32) (g28 : Nat) (g29 : Nat) (w30 : Int32) (g31 : Nat) (g32 : Nat) (g33 : Nat) (fa : Nat → Int32) (fm : Nat → Int32) (fn : Nat → Int64) (h_a : MI n fa) (h_r : r < 4) : Ct l yX8_waysSeen cX8_waysSeen 6 (some .int) 2 0 0 D T [.ref o, .int (nI r)] [(o, .inr (8, [.int w0, .ref g1, .ref g2, .ref g3, .ref g4, .int (nI tp), .int w6, .int w7, .int w8, .int w9, .int w10, .int w11, .int w12, .int w13, .int w14, .ref g15, .int w16, .ref g17, .int w18, .int w19, .ref g20, .int w21, .ref g22, .ref g23, .ref g24, .int w25, .int w26, .int w27, .ref g28, .ref g29, .int w30, .ref g31, .ref g32, .ref g33])), (g1, .inl (T 0, 282, .inl fa)), (g32, .inl (T 0, 4, .inl fm)), (g33, .inl (T 1, 160, .inr (.inl fn)))] (q_m_waysSeen T n o r w0 g1 g2 g3 g4 tp w6 w7 w8 w9 w10 w11 w12 w13 w14 g15 w16 g17 w18 w19 g20 w21 g22 g23 g24 w25 w26 w27 g28 g29 w30 g31 g32 g33 fa fm fn) := by
  refine Ct.of (cc := cX8_waysSeen) (maxL := 6) (ret := (some .int)) (by decide) (Nat.le_of_ble_eq_true rfl) ?_
  intro p e s m args below meth c A ls hC hnm V hl
  obtain ⟨hx, hb, hr, hml, hown, hts, hlocks⟩ := id hC
  generalize hH : s.heap = H at V ⊢
  clear hH
  have hl : lv_has ls 6 [(0, .ref o), (1, .int (nI r))] := hl
  generalize hlo : ([] : List Loc) = locs at V ⊢
  clear hlo
  have ms0 := ms_rf h_a
  have hn10 := h_a.1
  have hpw := pw10 hn10
  refine lv_iconst (v := (nI 0)) hx hb dX8_waysSeen_0 (by decide +kernel) ?_
  refine lv_istore_n (lv' := [(2, .int (nI 0)), (0, .ref o), (1, .int (nI r))]) hx hb dX8_waysSeen_1 rfl hl (by decide) rfl (fun ls hl => ?_)
  refine lv_aload_n hx hb dX8_waysSeen_2 rfl (lv_at hl 1 rfl) ?_
  refine lv_iconst (v := (nI 1)) hx hb dX8_waysSeen_3 (by decide +kernel) ?_
  refine lv_aload_n hx hb dX8_waysSeen_4 rfl (lv_at hl 1 rfl) ?_
  refine g_get hC V (ci := 8) uwX8 0 rfl rfl 1 (by decide) w_913 rfl rfl dX8_waysSeen_5 ?_
  refine lv_iconst (v := (nI 0)) hx hb dX8_waysSeen_8 (by decide +kernel) ?_
  refine g_iald hC V 1 rfl (vp_in_nI (by decide) (by decide)) (v := (nI n)) (by rw [nI_clamp (by decide)]; first | rfl | exact h_a.2.1) dX8_waysSeen_9 ?_
  refine lv_ishl hx hb dX8_waysSeen_10 ?_
  refine g_vi (y := (nI (2 ^ n))) (shl_pow (by omega)) ?_
  refine lv_iconst (v := (nI 1)) hx hb dX8_waysSeen_11 (by decide +kernel) ?_
  refine lv_isub hx hb dX8_waysSeen_12 ?_
  refine g_put hC V (ci := 8) uwX8 tyX8 tyX8_ok nmX8 0 rfl rfl 26 (by decide) w_938 rfl rfl rfl rfl (Nat.le_of_ble_eq_true rfl) (ws' := [(o, .inr (8, [.int w0, .ref g1, .ref g2, .ref g3, .ref g4, .int (nI tp), .int w6, .int w7, .int w8, .int w9, .int w10, .int w11, .int w12, .int w13, .int w14, .ref g15, .int w16, .ref g17, .int w18, .int w19, .ref g20, .int w21, .ref g22, .ref g23, .ref g24, .int w25, .int ((nI (2 ^ n)) - (nI 1)), .int w27, .ref g28, .ref g29, .int w30, .ref g31, .ref g32, .ref g33])), (g1, .inl (T 0, 282, .inl fa)), (g32, .inl (T 0, 4, .inl fm)), (g33, .inl (T 1, 160, .inr (.inl fn)))]) rfl dX8_waysSeen_13 (fun H locs V => ?_)
  refine lv_aload_n hx hb dX8_waysSeen_16 rfl (lv_at hl 1 rfl) ?_
  refine lv_aload_n hx hb dX8_waysSeen_17 rfl (lv_at hl 1 rfl) ?_
  refine g_get hC V (ci := 8) uwX8 0 rfl rfl 26 (by decide) w_938 rfl rfl dX8_waysSeen_18 ?_
  refine g_put hC V (ci := 8) uwX8 tyX8 tyX8_ok nmX8 0 rfl rfl 27 (by decide) w_939 rfl rfl rfl rfl (Nat.le_of_ble_eq_true rfl) (ws' := [(o, .inr (8, [.int w0, .ref g1, .ref g2, .ref g3, .ref g4, .int (nI tp), .int w6, .int w7, .int w8, .int w9, .int w10, .int w11, .int w12, .int w13, .int w14, .ref g15, .int w16, .ref g17, .int w18, .int w19, .ref g20, .int w21, .ref g22, .ref g23, .ref g24, .int w25, .int ((nI (2 ^ n)) - (nI 1)), .int ((nI (2 ^ n)) - (nI 1)), .ref g28, .ref g29, .int w30, .ref g31, .ref g32, .ref g33])), (g1, .inl (T 0, 282, .inl fa)), (g32, .inl (T 0, 4, .inl fm)), (g33, .inl (T 1, 160, .inr (.inl fn)))]) rfl dX8_waysSeen_21 (fun H locs V => ?_)
  refine lv_iconst (v := (nI 0)) hx hb dX8_waysSeen_24 (by decide +kernel) ?_
  refine lv_istore_n (lv' := [(3, .int (nI 0)), (2, .int (nI 0)), (0, .ref o), (1, .int (nI r))]) hx hb dX8_waysSeen_25 rfl hl (by decide) rfl (fun ls hl => ?_)
  have L_1 : ∀ (fu : Nat) (k26 : Nat) (x26_2 : Int32) (v1 : Int32) (v2 : Int32), k26 ≤ 2 ^ n → 2 ^ n - k26 < fu → ∀ (H : Heap) (locs : List Loc) (ls : Array Slot), gW D T A s [(o, .inr (8, [.int w0, .ref g1, .ref g2, .ref g3, .ref g4, .int (nI tp), .int w6, .int w7, .int w8, .int w9, .int w10, .int w11, .int w12, .int w13, .int w14, .ref g15, .int w16, .ref g17, .int w18, .int w19, .ref g20, .int w21, .ref g22, .ref g23, .ref g24, .int w25, .int v1, .int v2, .ref g28, .ref g29, .int w30, .ref g31, .ref g32, .ref g33])), (g1, .inl (T 0, 282, .inl fa)), (g32, .inl (T 0, 4, .inl fm)), (g33, .inl (T 1, 160, .inr (.inl fn)))] H locs → lv_has ls 6 [(3, .int (nI k26)), (2, .int x26_2), (0, .ref o), (1, .int (nI r))] → W p l e (rmD 2 0 0) s m args below meth c H locs 0 0 (MQ below (gQ D A (q_m_waysSeen T n o r w0 g1 g2 g3 g4 tp w6 w7 w8 w9 w10 w11 w12 w13 w14 g15 w16 g17 w18 w19 g20 w21 g22 g23 g24 w25 w26 w27 g28 g29 w30 g31 g32 g33 fa fm fn)) args s 0 0 A) (F0 m 26 ls []) := by
    intro fu_26
    induction fu_26 with
    | zero => intro k26 x26_2 v1 v2 hk26 hmu; exact absurd hmu (Nat.not_lt_zero _)
    | succ fu_26 ih_26 =>
      intro k26 x26_2 v1 v2 hk26 hmu_26 H locs ls V hl
      refine lv_iload_n hx hb dX8_waysSeen_26 rfl (lv_at hl 0 rfl) ?_
      refine lv_iconst (v := (nI 1)) hx hb dX8_waysSeen_27 (by decide +kernel) ?_
      refine lv_aload_n hx hb dX8_waysSeen_28 rfl (lv_at hl 2 rfl) ?_
      refine g_get hC V (ci := 8) uwX8 0 rfl rfl 1 (by decide) w_913 rfl rfl dX8_waysSeen_29 ?_
      refine lv_iconst (v := (nI 0)) hx hb dX8_waysSeen_32 (by decide +kernel) ?_
      refine g_iald hC V 1 rfl (vp_in_nI (by decide) (by decide)) (v := (nI n)) (by rw [nI_clamp (by decide)]; first | rfl | exact h_a.2.1) dX8_waysSeen_33 ?_
      refine lv_ishl hx hb dX8_waysSeen_34 ?_
      refine g_vi (y := (nI (2 ^ n))) (shl_pow (by omega)) ?_
      refine lv_icmp_ge (tgt := 137) hx hb dX8_waysSeen_35 (by decide) (fun c_2 => ?_) (fun c_2 => ?_)
      · skip
        have c_2 := b_le (by omega) (by omega) c_2
        refine lv_iload_n hx hb dX8_waysSeen_137 rfl (lv_at hl 1 rfl) ?_
        exact g_iret (Qr := (q_m_waysSeen T n o r w0 g1 g2 g3 g4 tp w6 w7 w8 w9 w10 w11 w12 w13 w14 g15 w16 g17 w18 w19 g20 w21 g22 g23 g24 w25 w26 w27 g28 g29 w30 g31 g32 g33 fa fm fn)) hC V ⟨(Nat.le_of_ble_eq_true rfl), (Nat.le_of_ble_eq_true rfl)⟩ ⟨x26_2, v1, v2, rfl, rfl⟩ dX8_waysSeen_138
      · skip
        have c_2 := b_nle (by omega) (by omega) c_2
        refine lv_iconst (v := (nI 1)) hx hb dX8_waysSeen_38 (by decide +kernel) ?_
        refine lv_istore (lv' := [(4, .int (nI 1)), (3, .int (nI k26)), (2, .int x26_2), (0, .ref o), (1, .int (nI r))]) hx hb dX8_waysSeen_39 hl (by decide) rfl (fun ls hl => ?_)
        refine lv_iconst (v := (nI 0)) hx hb dX8_waysSeen_41 (by decide +kernel) ?_
        refine lv_istore (lv' := [(5, .int (nI 0)), (4, .int (nI 1)), (3, .int (nI k26)), (2, .int x26_2), (0, .ref o), (1, .int (nI r))]) hx hb dX8_waysSeen_42 hl (by decide) rfl (fun ls hl => ?_)
        have L_3 : ∀ (fu : Nat) (k44 : Nat) (x44_4 : Int32), k44 ≤ n → n - k44 < fu → ∀ (H : Heap) (locs : List Loc) (ls : Array Slot), gW D T A s [(o, .inr (8, [.int w0, .ref g1, .ref g2, .ref g3, .ref g4, .int (nI tp), .int w6, .int w7, .int w8, .int w9, .int w10, .int w11, .int w12, .int w13, .int w14, .ref g15, .int w16, .ref g17, .int w18, .int w19, .ref g20, .int w21, .ref g22, .ref g23, .ref g24, .int w25, .int v1, .int v2, .ref g28, .ref g29, .int w30, .ref g31, .ref g32, .ref g33])), (g1, .inl (T 0, 282, .inl fa)), (g32, .inl (T 0, 4, .inl fm)), (g33, .inl (T 1, 160, .inr (.inl fn)))] H locs → lv_has ls 6 [(5, .int (nI k44)), (4, .int x44_4), (3, .int (nI k26)), (2, .int x26_2), (0, .ref o), (1, .int (nI r))] → W p l e (rmD 2 0 0) s m args below meth c H locs 0 0 (MQ below (gQ D A (q_m_waysSeen T n o r w0 g1 g2 g3 g4 tp w6 w7 w8 w9 w10 w11 w12 w13 w14 g15 w16 g17 w18 w19 g20 w21 g22 g23 g24 w25 w26 w27 g28 g29 w30 g31 g32 g33 fa fm fn)) args s 0 0 A) (F0 m 44 ls []) := by
          intro fu_44
          induction fu_44 with
          | zero => intro k44 x44_4 hk44 hmu; exact absurd hmu (Nat.not_lt_zero _)
          | succ fu_44 ih_44 =>
            intro k44 x44_4 hk44 hmu_44 H locs ls V hl
            refine lv_iload hx hb dX8_waysSeen_44 (lv_at hl 0 rfl) ?_
            refine lv_aload_n hx hb dX8_waysSeen_46 rfl (lv_at hl 4 rfl) ?_
            refine g_get hC V (ci := 8) uwX8 0 rfl rfl 1 (by decide) w_913 rfl rfl dX8_waysSeen_47 ?_
            refine lv_iconst (v := (nI 0)) hx hb dX8_waysSeen_50 (by decide +kernel) ?_
            refine g_iald hC V 1 rfl (vp_in_nI (by decide) (by decide)) (v := (nI n)) (by rw [nI_clamp (by decide)]; first | rfl | exact h_a.2.1) dX8_waysSeen_51 ?_
            refine lv_icmp_ge (tgt := 98) hx hb dX8_waysSeen_52 (by decide) (fun c_4 => ?_) (fun c_4 => ?_)
            · skip
              have c_4 := b_le (by omega) (by omega) c_4
              refine lv_iload hx hb dX8_waysSeen_98 (lv_at hl 1 rfl) ?_
              refine lv_if_ne (tgt := 106) hx hb dX8_waysSeen_100 (by decide) (fun c_5 => ?_) (fun c_5 => ?_)
              · skip
                refine lv_iinc (v := (x26_2 + 1)) (lv' := [(2, .int (x26_2 + 1)), (5, .int (nI k44)), (4, .int x44_4), (3, .int (nI k26)), (0, .ref o), (1, .int (nI r))]) hx hb dX8_waysSeen_106 hl (k := 3) rfl rfl (by decide) rfl (fun ls hl => ?_)
                refine lv_aload_n hx hb dX8_waysSeen_109 rfl (lv_at hl 4 rfl) ?_
                refine lv_dup hx hb dX8_waysSeen_110 rfl ?_
                refine g_get hC V (ci := 8) uwX8 0 rfl rfl 26 (by decide) w_938 rfl rfl dX8_waysSeen_111 ?_
                refine lv_iload_n hx hb dX8_waysSeen_114 rfl (lv_at hl 3 rfl) ?_
                refine lv_iand hx hb dX8_waysSeen_115 ?_
                refine g_put hC V (ci := 8) uwX8 tyX8 tyX8_ok nmX8 0 rfl rfl 26 (by decide) w_938 rfl rfl rfl rfl (Nat.le_of_ble_eq_true rfl) (ws' := [(o, .inr (8, [.int w0, .ref g1, .ref g2, .ref g3, .ref g4, .int (nI tp), .int w6, .int w7, .int w8, .int w9, .int w10, .int w11, .int w12, .int w13, .int w14, .ref g15, .int w16, .ref g17, .int w18, .int w19, .ref g20, .int w21, .ref g22, .ref g23, .ref g24, .int w25, .int (v1 &&& (nI k26)), .int v2, .ref g28, .ref g29, .int w30, .ref g31, .ref g32, .ref g33])), (g1, .inl (T 0, 282, .inl fa)), (g32, .inl (T 0, 4, .inl fm)), (g33, .inl (T 1, 160, .inr (.inl fn)))]) rfl dX8_waysSeen_116 (fun H locs V => ?_)
                refine lv_aload_n hx hb dX8_waysSeen_119 rfl (lv_at hl 4 rfl) ?_
                refine lv_dup hx hb dX8_waysSeen_120 rfl ?_
                refine g_get hC V (ci := 8) uwX8 0 rfl rfl 27 (by decide) w_939 rfl rfl dX8_waysSeen_121 ?_
                refine lv_iload_n hx hb dX8_waysSeen_124 rfl (lv_at hl 3 rfl) ?_
                refine lv_iconst (v := (-1)) hx hb dX8_waysSeen_125 (by decide +kernel) ?_
                refine lv_ixor hx hb dX8_waysSeen_126 ?_
                refine lv_iand hx hb dX8_waysSeen_127 ?_
                refine g_put hC V (ci := 8) uwX8 tyX8 tyX8_ok nmX8 0 rfl rfl 27 (by decide) w_939 rfl rfl rfl rfl (Nat.le_of_ble_eq_true rfl) (ws' := [(o, .inr (8, [.int w0, .ref g1, .ref g2, .ref g3, .ref g4, .int (nI tp), .int w6, .int w7, .int w8, .int w9, .int w10, .int w11, .int w12, .int w13, .int w14, .ref g15, .int w16, .ref g17, .int w18, .int w19, .ref g20, .int w21, .ref g22, .ref g23, .ref g24, .int w25, .int (v1 &&& (nI k26)), .int (v2 &&& ((nI k26) ^^^ (-1))), .ref g28, .ref g29, .int w30, .ref g31, .ref g32, .ref g33])), (g1, .inl (T 0, 282, .inl fa)), (g32, .inl (T 0, 4, .inl fm)), (g33, .inl (T 1, 160, .inr (.inl fn)))]) rfl dX8_waysSeen_128 (fun H locs V => ?_)
                refine lv_iinc (v := (nI (k26 + 1))) (lv' := [(3, .int (nI (k26 + 1))), (2, .int (x26_2 + 1)), (5, .int (nI k44)), (4, .int x44_4), (0, .ref o), (1, .int (nI r))]) hx hb dX8_waysSeen_131 hl (k := 3) rfl (nI_1 _) (by decide) rfl (fun ls hl => ?_)
                refine lv_goto (tgt := 26) hx hb dX8_waysSeen_134 (by decide) ?_
                exact ih_26 (k26 + 1) (x26_2 + 1) (v1 &&& (nI k26)) (v2 &&& ((nI k26) ^^^ (-1))) (by omega) (by omega) _ _ _ V (lv_sub hl [0, 1, 4, 5] rfl)
              · skip
                refine lv_goto (tgt := 131) hx hb dX8_waysSeen_103 (by decide) ?_
                refine lv_iinc (v := (nI (k26 + 1))) (lv' := [(3, .int (nI (k26 + 1))), (5, .int (nI k44)), (4, .int x44_4), (2, .int x26_2), (0, .ref o), (1, .int (nI r))]) hx hb dX8_waysSeen_131 hl (k := 2) rfl (nI_1 _) (by decide) rfl (fun ls hl => ?_)
                refine lv_goto (tgt := 26) hx hb dX8_waysSeen_134 (by decide) ?_
                exact ih_26 (k26 + 1) x26_2 v1 v2 (by omega) (by omega) _ _ _ V (lv_sub hl [0, 3, 4, 5] rfl)
            · skip
              have c_4 := b_nle (by omega) (by omega) c_4
              refine lv_iload hx hb dX8_waysSeen_55 (lv_at hl 1 rfl) ?_
              refine lv_if_eq (tgt := 98) hx hb dX8_waysSeen_57 (by decide) (fun c_6 => ?_) (fun c_6 => ?_)
              · skip
                refine lv_iload hx hb dX8_waysSeen_98 (lv_at hl 1 rfl) ?_
                refine lv_if_ne (tgt := 106) hx hb dX8_waysSeen_100 (by decide) (fun c_7 => ?_) (fun c_7 => ?_)
                · skip
                  refine lv_iinc (v := (x26_2 + 1)) (lv' := [(2, .int (x26_2 + 1)), (5, .int (nI k44)), (4, .int x44_4), (3, .int (nI k26)), (0, .ref o), (1, .int (nI r))]) hx hb dX8_waysSeen_106 hl (k := 3) rfl rfl (by decide) rfl (fun ls hl => ?_)
                  refine lv_aload_n hx hb dX8_waysSeen_109 rfl (lv_at hl 4 rfl) ?_
                  refine lv_dup hx hb dX8_waysSeen_110 rfl ?_
                  refine g_get hC V (ci := 8) uwX8 0 rfl rfl 26 (by decide) w_938 rfl rfl dX8_waysSeen_111 ?_
                  refine lv_iload_n hx hb dX8_waysSeen_114 rfl (lv_at hl 3 rfl) ?_
                  refine lv_iand hx hb dX8_waysSeen_115 ?_
                  refine g_put hC V (ci := 8) uwX8 tyX8 tyX8_ok nmX8 0 rfl rfl 26 (by decide) w_938 rfl rfl rfl rfl (Nat.le_of_ble_eq_true rfl) (ws' := [(o, .inr (8, [.int w0, .ref g1, .ref g2, .ref g3, .ref g4, .int (nI tp), .int w6, .int w7, .int w8, .int w9, .int w10, .int w11, .int w12, .int w13, .int w14, .ref g15, .int w16, .ref g17, .int w18, .int w19, .ref g20, .int w21, .ref g22, .ref g23, .ref g24, .int w25, .int (v1 &&& (nI k26)), .int v2, .ref g28, .ref g29, .int w30, .ref g31, .ref g32, .ref g33])), (g1, .inl (T 0, 282, .inl fa)), (g32, .inl (T 0, 4, .inl fm)), (g33, .inl (T 1, 160, .inr (.inl fn)))]) rfl dX8_waysSeen_116 (fun H locs V => ?_)
                  refine lv_aload_n hx hb dX8_waysSeen_119 rfl (lv_at hl 4 rfl) ?_
                  refine lv_dup hx hb dX8_waysSeen_120 rfl ?_
                  refine g_get hC V (ci := 8) uwX8 0 rfl rfl 27 (by decide) w_939 rfl rfl dX8_waysSeen_121 ?_
                  refine lv_iload_n hx hb dX8_waysSeen_124 rfl (lv_at hl 3 rfl) ?_
                  refine lv_iconst (v := (-1)) hx hb dX8_waysSeen_125 (by decide +kernel) ?_
                  refine lv_ixor hx hb dX8_waysSeen_126 ?_
                  refine lv_iand hx hb dX8_waysSeen_127 ?_
                  refine g_put hC V (ci := 8) uwX8 tyX8 tyX8_ok nmX8 0 rfl rfl 27 (by decide) w_939 rfl rfl rfl rfl (Nat.le_of_ble_eq_true rfl) (ws' := [(o, .inr (8, [.int w0, .ref g1, .ref g2, .ref g3, .ref g4, .int (nI tp), .int w6, .int w7, .int w8, .int w9, .int w10, .int w11, .int w12, .int w13, .int w14, .ref g15, .int w16, .ref g17, .int w18, .int w19, .ref g20, .int w21, .ref g22, .ref g23, .ref g24, .int w25, .int (v1 &&& (nI k26)), .int (v2 &&& ((nI k26) ^^^ (-1))), .ref g28, .ref g29, .int w30, .ref g31, .ref g32, .ref g33])), (g1, .inl (T 0, 282, .inl fa)), (g32, .inl (T 0, 4, .inl fm)), (g33, .inl (T 1, 160, .inr (.inl fn)))]) rfl dX8_waysSeen_128 (fun H locs V => ?_)
                  refine lv_iinc (v := (nI (k26 + 1))) (lv' := [(3, .int (nI (k26 + 1))), (2, .int (x26_2 + 1)), (5, .int (nI k44)), (4, .int x44_4), (0, .ref o), (1, .int (nI r))]) hx hb dX8_waysSeen_131 hl (k := 3) rfl (nI_1 _) (by decide) rfl (fun ls hl => ?_)
                  refine lv_goto (tgt := 26) hx hb dX8_waysSeen_134 (by decide) ?_
                  exact ih_26 (k26 + 1) (x26_2 + 1) (v1 &&& (nI k26)) (v2 &&& ((nI k26) ^^^ (-1))) (by omega) (by omega) _ _ _ V (lv_sub hl [0, 1, 4, 5] rfl)
                · skip
                  refine lv_goto (tgt := 131) hx hb dX8_waysSeen_103 (by decide) ?_
                  refine lv_iinc (v := (nI (k26 + 1))) (lv' := [(3, .int (nI (k26 + 1))), (5, .int (nI k44)), (4, .int x44_4), (2, .int x26_2), (0, .ref o), (1, .int (nI r))]) hx hb dX8_waysSeen_131 hl (k := 2) rfl (nI_1 _) (by decide) rfl (fun ls hl => ?_)
                  refine lv_goto (tgt := 26) hx hb dX8_waysSeen_134 (by decide) ?_
                  exact ih_26 (k26 + 1) x26_2 v1 v2 (by omega) (by omega) _ _ _ V (lv_sub hl [0, 3, 4, 5] rfl)
              · skip
                refine lv_aload_n hx hb dX8_waysSeen_60 rfl (lv_at hl 4 rfl) ?_
                refine lv_iload hx hb dX8_waysSeen_61 (lv_at hl 0 rfl) ?_
                refine lv_iload_n hx hb dX8_waysSeen_63 rfl (lv_at hl 2 rfl) ?_
                refine lv_iconst (v := (nI 0)) hx hb dX8_waysSeen_64 (by decide +kernel) ?_
                refine g_callVU (nA := 3) hC V hl.1 (m_heatThen l D T n o k44 (nI k26) (nI 0) w0 g1 g2 g3 g4 tp w6 w7 w8 w9 w10 w11 w12 w13 w14 g15 w16 g17 w18 w19 g20 w21 g22 g23 g24 w25 v1 v2 g28 g29 w30 g31 g32 g33 fa h_a (by first | assumption | omega)) w_1126 w_1128 w_s51 w_9 w_1129 (by decide +kernel) rfl ⟨(Nat.le_of_ble_eq_true rfl), (Nat.le_of_ble_eq_true rfl)⟩ 0 (ci := 8) rfl rfl [0, 1] rfl rfl (Nat.le_of_ble_eq_true rfl) dX8_waysSeen_65 ⟨(Nat.le_of_ble_eq_true rfl), (Nat.le_of_ble_eq_true rfl)⟩ rfl (fun r w1 H locs hQ V => ?_)
                obtain ⟨z_8, rfl, rfl, f_9⟩ := hQ
                have V : gW D T A s [(o, .inr (8, [.int w0, .ref g1, .ref g2, .ref g3, .ref g4, .int (nI tp), .int w6, .int w7, .int w8, .int w9, .int w10, .int w11, .int w12, .int w13, .int w14, .ref g15, .int w16, .ref g17, .int w18, .int w19, .ref g20, .int w21, .ref g22, .ref g23, .ref g24, .int w25, .int v1, .int v2, .ref g28, .ref g29, .int w30, .ref g31, .ref g32, .ref g33])), (g1, .inl (T 0, 282, .inl fa)), (g32, .inl (T 0, 4, .inl fm)), (g33, .inl (T 1, 160, .inr (.inl fn)))] H locs := V _ [0, 0] rfl rfl rfl (by decide +kernel) rfl
                show W p l e _ s m args below meth c H locs _ _ _ (F0 m 68 ls [.int z_8])
                refine lv_i2l (v := z_8.toInt64) hx hb dX8_waysSeen_68 rfl ?_
                refine lv_aload_n hx hb dX8_waysSeen_69 rfl (lv_at hl 4 rfl) ?_
                refine g_get hC V (ci := 8) uwX8 0 rfl rfl 33 (by decide) w_945 rfl rfl dX8_waysSeen_70 ?_
                refine lv_bipush (v := (nI 40)) hx hb dX8_waysSeen_73 (by decide +kernel) ?_
                refine lv_iload_n hx hb dX8_waysSeen_75 rfl (lv_at hl 5 rfl) ?_
                refine lv_imul hx hb dX8_waysSeen_76 ?_
                refine g_vi (y := (nI (40 * r))) (pk_mul _ _) ?_
                refine lv_iload hx hb dX8_waysSeen_77 (lv_at hl 0 rfl) ?_
                refine lv_iadd hx hb dX8_waysSeen_79 ?_
                refine g_vi (y := (nI ((40 * r) + k44))) (nI_add _ _) ?_
                refine g_lald hC V 3 rfl (vp_in_nI (by omega) (by omega)) (v := (fn ((40 * r) + k44))) (congrArg _ (nI_clamp (by omega))) dX8_waysSeen_80 ?_
                refine W.lcmp hx hb dX8_waysSeen_81 ?_
                refine lv_if_ne (tgt := 89) hx hb dX8_waysSeen_82 (by decide) (fun c_10 => ?_) (fun c_10 => ?_)
                · skip
                  refine lv_iconst (v := (nI 0)) hx hb dX8_waysSeen_89 (by decide +kernel) ?_
                  refine lv_istore (lv' := [(4, .int (nI 0)), (5, .int (nI k44)), (3, .int (nI k26)), (2, .int x26_2), (0, .ref o), (1, .int (nI r))]) hx hb dX8_waysSeen_90 hl (by decide) rfl (fun ls hl => ?_)
                  refine lv_iinc (v := (nI (k44 + 1))) (lv' := [(5, .int (nI (k44 + 1))), (4, .int (nI 0)), (3, .int (nI k26)), (2, .int x26_2), (0, .ref o), (1, .int (nI r))]) hx hb dX8_waysSeen_92 hl (k := 1) rfl (nI_1 _) (by decide) rfl (fun ls hl => ?_)
                  refine lv_goto (tgt := 44) hx hb dX8_waysSeen_95 (by decide) ?_
                  exact ih_44 (k44 + 1) (nI 0) (by omega) (by omega) _ _ _ V (lv_sub hl [0, 1, 2, 3, 4, 5] rfl)
                · skip
                  refine lv_iconst (v := (nI 1)) hx hb dX8_waysSeen_85 (by decide +kernel) ?_
                  refine lv_goto (tgt := 90) hx hb dX8_waysSeen_86 (by decide) ?_
                  refine lv_istore (lv' := [(4, .int (nI 1)), (5, .int (nI k44)), (3, .int (nI k26)), (2, .int x26_2), (0, .ref o), (1, .int (nI r))]) hx hb dX8_waysSeen_90 hl (by decide) rfl (fun ls hl => ?_)
                  refine lv_iinc (v := (nI (k44 + 1))) (lv' := [(5, .int (nI (k44 + 1))), (4, .int (nI 1)), (3, .int (nI k26)), (2, .int x26_2), (0, .ref o), (1, .int (nI r))]) hx hb dX8_waysSeen_92 hl (k := 1) rfl (nI_1 _) (by decide) rfl (fun ls hl => ?_)
                  refine lv_goto (tgt := 44) hx hb dX8_waysSeen_95 (by decide) ?_
                  exact ih_44 (k44 + 1) (nI 1) (by omega) (by omega) _ _ _ V (lv_sub hl [0, 1, 2, 3, 4, 5] rfl)
        exact L_3 _ 0 (nI 1) (by omega) (Nat.lt_succ_self _) _ _ _ V (lv_sub hl [0, 1, 2, 3, 4, 5] rfl)
  exact L_1 _ 0 (nI 0) ((nI (2 ^ n)) - (nI 1)) ((nI (2 ^ n)) - (nI 1)) (by omega) (Nat.lt_succ_self _) _ _ _ V (lv_sub hl [0, 1, 2, 3] rfl)

def q_m_refusesSeen (T : Nat → ClassId) (n : Nat) (o : Nat) (row : Int32) (w0 : Int32) (g1 : Nat) (g2 : Nat) (g3 : Nat) (g4 : Nat) (tp : Nat) (w6 : Int32) (w7 : Int32) (w8 : Int32) (w9 : Int32) (w10 : Int32) (w11 : Int32) (w12 : Int32) (w13 : Int32) (w14 : Int32) (g15 : Nat) (w16 : Int32) (g17 : Nat) (w18 : Int32) (w19 : Int32) (g20 : Nat) (w21 : Int32) (g22 : Nat) (g23 : Nat) (g24 : Nat) (w25 : Int32) (w26 : Int32) (w27 : Int32) (g28 : Nat) (g29 : Nat) (w30 : Int32) (g31 : Nat) (g32 : Nat) (g33 : Nat) (fa : Nat → Int32) (fq : Nat → Int32) (fm : Nat → Int32) (fn : Nat → Int64) : Option Value → va_W → Prop := fun rr ww => (∃ (r : Nat), rr = some (.int (nI 0)) ∧ ww = [(o, .inr (8, [.int w0, .ref g1, .ref g2, .ref g3, .ref g4, .int (nI tp), .int w6, .int w7, .int w8, .int w9, .int w10, .int w11, .int w12, .int w13, .int w14, .ref g15, .int w16, .ref g17, .int w18, .int w19, .ref g20, .int w21, .ref g22, .ref g23, .ref g24, .int w25, .int w26, .int w27, .ref g28, .ref g29, .int w30, .ref g31, .ref g32, .ref g33])), (g1, .inl (T 0, 282, .inl fa)), (g31, .inl (T 0, 4, .inl fq)), (g32, .inl (T 0, 4, .inl fm)), (g33, .inl (T 1, 160, .inr (.inl fn)))] ∧ r < 4 ∧ row = nI r) ∨ (∃ (z : Int32), rr = some (.int z) ∧ ww = [(o, .inr (8, [.int w0, .ref g1, .ref g2, .ref g3, .ref g4, .int (nI tp), .int w6, .int w7, .int w8, .int w9, .int w10, .int w11, .int w12, .int w13, .int w14, .ref g15, .int w16, .ref g17, .int w18, .int w19, .ref g20, .int w21, .ref g22, .ref g23, .ref g24, .int w25, .int w26, .int w27, .ref g28, .ref g29, .int w30, .ref g31, .ref g32, .ref g33])), (g1, .inl (T 0, 282, .inl fa)), (g31, .inl (T 0, 4, .inl fq)), (g32, .inl (T 0, 4, .inl fm)), (g33, .inl (T 1, 160, .inr (.inl fn)))] ∧ ¬ z = 0)
set_option maxHeartbeats 4000000 in
set_option maxRecDepth 100000 in
theorem m_refusesSeen (l : Launch) (D : va_G) (T : Nat → ClassId) (n : Nat) (o : Nat) (row : Int32) (w0 : Int32) (g1 : Nat) (g2 : Nat) (g3 : Nat) (g4 : Nat) (tp : Nat) (w6 : Int32) (w7 : Int32) (w8 : Int32) (w9 : Int32) (w10 : Int32) (w11 : Int32) (w12 : Int32) (w13 : Int32) (w14 : Int32) (g15 : Nat) (w16 : Int32) (g17 : Nat) (w18 : Int32) (w19 : Int32) (g20 : Nat) (w21 : Int32) (g22 : Nat) (g23 : Nat) (g24 : Nat) (w25 : Int32) (w26 : Int32) (w27 : Int32) (g28 : Nat) (g29 : Nat) (w30 : Int32) (g31 : Nat) (g32 : Nat) (g33 : Nat) (fa : Nat → Int32) (fq : Nat → Int32) (fm : Nat → Int32) (fn : Nat → Int64) (h_a : MI n fa) : Ct l yX8_refusesSeen cX8_refusesSeen 2 (some .int) 1 0 0 D T [.ref o, .int row] [(o, .inr (8, [.int w0, .ref g1, .ref g2, .ref g3, .ref g4, .int (nI tp), .int w6, .int w7, .int w8, .int w9, .int w10, .int w11, .int w12, .int w13, .int w14, .ref g15, .int w16, .ref g17, .int w18, .int w19, .ref g20, .int w21, .ref g22, .ref g23, .ref g24, .int w25, .int w26, .int w27, .ref g28, .ref g29, .int w30, .ref g31, .ref g32, .ref g33])), (g1, .inl (T 0, 282, .inl fa)), (g31, .inl (T 0, 4, .inl fq)), (g32, .inl (T 0, 4, .inl fm)), (g33, .inl (T 1, 160, .inr (.inl fn)))] (q_m_refusesSeen T n o row w0 g1 g2 g3 g4 tp w6 w7 w8 w9 w10 w11 w12 w13 w14 g15 w16 g17 w18 w19 g20 w21 g22 g23 g24 w25 w26 w27 g28 g29 w30 g31 g32 g33 fa fq fm fn) := by
  refine Ct.of (cc := cX8_refusesSeen) (maxL := 2) (ret := (some .int)) (by decide) (Nat.le_of_ble_eq_true rfl) ?_
  intro p e s m args below meth c A ls hC hnm V hl
  obtain ⟨hx, hb, hr, hml, hown, hts, hlocks⟩ := id hC
  generalize hH : s.heap = H at V ⊢
  clear hH
  have hl : lv_has ls 2 [(0, .ref o), (1, .int row)] := hl
  generalize hlo : ([] : List Loc) = locs at V ⊢
  clear hlo
  have ms0 := ms_rf h_a
  have hn10 := h_a.1
  refine lv_iload_n hx hb dX8_refusesSeen_0 rfl (lv_at hl 1 rfl) ?_
  refine lv_i2l (v := row.toInt64) hx hb dX8_refusesSeen_1 rfl ?_
  refine lv_lconst (v := (nI 0).toInt64) hx hb dX8_refusesSeen_2 (by decide +kernel) ?_
  refine lv_ldc2 (v := (3)) hx hb hown (hts _ w_1144) dX8_refusesSeen_3 ?_
  refine g_vl (y := (nI 3).toInt64) (by decide +kernel) ?_
  refine g_callSU (nA := 3) hC V hl.1 (m_within l D T row (nI 0) (nI 3)) w_1023 w_1024 w_9 w_1025 (by decide +kernel) rfl ⟨(Nat.le_of_ble_eq_true rfl), (Nat.le_of_ble_eq_true rfl)⟩ [] rfl rfl (Nat.le_of_ble_eq_true rfl) dX8_refusesSeen_6 ⟨(Nat.le_of_ble_eq_true rfl), (Nat.le_of_ble_eq_true rfl)⟩ rfl (fun r w1 H locs hQ V => ?_)
  rcases hQ with ⟨rfl, rfl, f_1, f_2⟩ | ⟨rfl, rfl, f_3⟩
  · have V : gW D T A s [(o, .inr (8, [.int w0, .ref g1, .ref g2, .ref g3, .ref g4, .int (nI tp), .int w6, .int w7, .int w8, .int w9, .int w10, .int w11, .int w12, .int w13, .int w14, .ref g15, .int w16, .ref g17, .int w18, .int w19, .ref g20, .int w21, .ref g22, .ref g23, .ref g24, .int w25, .int w26, .int w27, .ref g28, .ref g29, .int w30, .ref g31, .ref g32, .ref g33])), (g1, .inl (T 0, 282, .inl fa)), (g31, .inl (T 0, 4, .inl fq)), (g32, .inl (T 0, 4, .inl fm)), (g33, .inl (T 1, 160, .inr (.inl fn)))] H locs := V _ [] rfl rfl rfl (by decide +kernel) rfl
    show W p l e _ s m args below meth c H locs _ _ _ (F0 m 9 ls [.int (nI 1)])
    obtain ⟨rq, hrq1, hrq2, erq⟩ := g_rng (by decide) (by decide) f_1 f_2
    rw [erq] at hl
    refine lv_if_ne (tgt := 15) hx hb dX8_refusesSeen_9 (by decide) (fun _ => ?_) (fun c => absurd (show (nI 1) = 0 from c) (by decide +kernel))
    refine lv_aload_n hx hb dX8_refusesSeen_15 rfl (lv_at hl 0 rfl) ?_
    refine g_get hC V (ci := 8) uwX8 0 rfl rfl 31 (by decide) w_943 rfl rfl dX8_refusesSeen_16 ?_
    refine lv_iload_n hx hb dX8_refusesSeen_19 rfl (lv_at hl 1 rfl) ?_
    refine g_iald hC V 2 rfl (vp_in_nI (by omega) (by omega)) (v := (fq rq)) (congrArg _ (nI_clamp (by omega))) dX8_refusesSeen_20 ?_
    refine lv_iconst (v := (-1)) hx hb dX8_refusesSeen_21 (by decide +kernel) ?_
    refine lv_icmp_ne (tgt := 28) hx hb dX8_refusesSeen_22 (by decide) (fun c_4 => ?_) (fun c_4 => ?_)
    · skip
      refine lv_aload_n hx hb dX8_refusesSeen_28 rfl (lv_at hl 0 rfl) ?_
      refine g_get hC V (ci := 8) uwX8 0 rfl rfl 32 (by decide) w_944 rfl rfl dX8_refusesSeen_29 ?_
      refine lv_iload_n hx hb dX8_refusesSeen_32 rfl (lv_at hl 1 rfl) ?_
      refine g_iald hC V 3 rfl (vp_in_nI (by omega) (by omega)) (v := (fm rq)) (congrArg _ (nI_clamp (by omega))) dX8_refusesSeen_33 ?_
      refine lv_aload_n hx hb dX8_refusesSeen_34 rfl (lv_at hl 0 rfl) ?_
      refine g_get hC V (ci := 8) uwX8 0 rfl rfl 1 (by decide) w_913 rfl rfl dX8_refusesSeen_35 ?_
      refine lv_iconst (v := (nI 0)) hx hb dX8_refusesSeen_38 (by decide +kernel) ?_
      refine g_iald hC V 1 rfl (vp_in_nI (by decide) (by decide)) (v := (nI n)) (by rw [nI_clamp (by decide)]; first | rfl | exact h_a.2.1) dX8_refusesSeen_39 ?_
      refine lv_icmp_ne (tgt := 47) hx hb dX8_refusesSeen_40 (by decide) (fun c_5 => ?_) (fun c_5 => ?_)
      · skip
        refine lv_bipush (v := (-7)) hx hb dX8_refusesSeen_47 (by decide +kernel) ?_
        exact g_iret (Qr := (q_m_refusesSeen T n o row w0 g1 g2 g3 g4 tp w6 w7 w8 w9 w10 w11 w12 w13 w14 g15 w16 g17 w18 w19 g20 w21 g22 g23 g24 w25 w26 w27 g28 g29 w30 g31 g32 g33 fa fq fm fn)) hC V ⟨(Nat.le_of_ble_eq_true rfl), (Nat.le_of_ble_eq_true rfl)⟩ (.inr ⟨(-7), rfl, rfl, (by decide +kernel)⟩) dX8_refusesSeen_49
      · skip
        refine lv_iconst (v := (nI 0)) hx hb dX8_refusesSeen_43 (by decide +kernel) ?_
        refine lv_goto (tgt := 49) hx hb dX8_refusesSeen_44 (by decide) ?_
        exact g_iret (Qr := (q_m_refusesSeen T n o row w0 g1 g2 g3 g4 tp w6 w7 w8 w9 w10 w11 w12 w13 w14 g15 w16 g17 w18 w19 g20 w21 g22 g23 g24 w25 w26 w27 g28 g29 w30 g31 g32 g33 fa fq fm fn)) hC V ⟨(Nat.le_of_ble_eq_true rfl), (Nat.le_of_ble_eq_true rfl)⟩ (.inl ⟨rq, rfl, rfl, (by omega), erq⟩) dX8_refusesSeen_49
    · skip
      refine lv_bipush (v := (-6)) hx hb dX8_refusesSeen_25 (by decide +kernel) ?_
      exact g_iret (Qr := (q_m_refusesSeen T n o row w0 g1 g2 g3 g4 tp w6 w7 w8 w9 w10 w11 w12 w13 w14 g15 w16 g17 w18 w19 g20 w21 g22 g23 g24 w25 w26 w27 g28 g29 w30 g31 g32 g33 fa fq fm fn)) hC V ⟨(Nat.le_of_ble_eq_true rfl), (Nat.le_of_ble_eq_true rfl)⟩ (.inr ⟨(-6), rfl, rfl, (by decide +kernel)⟩) dX8_refusesSeen_27
  · have V : gW D T A s [(o, .inr (8, [.int w0, .ref g1, .ref g2, .ref g3, .ref g4, .int (nI tp), .int w6, .int w7, .int w8, .int w9, .int w10, .int w11, .int w12, .int w13, .int w14, .ref g15, .int w16, .ref g17, .int w18, .int w19, .ref g20, .int w21, .ref g22, .ref g23, .ref g24, .int w25, .int w26, .int w27, .ref g28, .ref g29, .int w30, .ref g31, .ref g32, .ref g33])), (g1, .inl (T 0, 282, .inl fa)), (g31, .inl (T 0, 4, .inl fq)), (g32, .inl (T 0, 4, .inl fm)), (g33, .inl (T 1, 160, .inr (.inl fn)))] H locs := V _ [] rfl rfl rfl (by decide +kernel) rfl
    show W p l e _ s m args below meth c H locs _ _ _ (F0 m 9 ls [.int (nI 0)])
    refine lv_if_ne (tgt := 15) hx hb dX8_refusesSeen_9 (by decide) (fun c => absurd (show (nI 0) = 0 by decide +kernel) c) (fun _ => ?_)
    refine lv_bipush (v := (-2)) hx hb dX8_refusesSeen_12 (by decide +kernel) ?_
    exact g_iret (Qr := (q_m_refusesSeen T n o row w0 g1 g2 g3 g4 tp w6 w7 w8 w9 w10 w11 w12 w13 w14 g15 w16 g17 w18 w19 g20 w21 g22 g23 g24 w25 w26 w27 g28 g29 w30 g31 g32 g33 fa fq fm fn)) hC V ⟨(Nat.le_of_ble_eq_true rfl), (Nat.le_of_ble_eq_true rfl)⟩ (.inr ⟨(-2), rfl, rfl, (by decide +kernel)⟩) dX8_refusesSeen_14

def q_m_seen (T : Nat → ClassId) (n : Nat) (o : Nat) (row : Int32) (w0 : Int32) (g1 : Nat) (g2 : Nat) (g3 : Nat) (g4 : Nat) (tp : Nat) (w6 : Int32) (w7 : Int32) (w8 : Int32) (w9 : Int32) (w10 : Int32) (w11 : Int32) (w12 : Int32) (w13 : Int32) (w14 : Int32) (g15 : Nat) (w16 : Int32) (g17 : Nat) (w18 : Int32) (w19 : Int32) (g20 : Nat) (w21 : Int32) (g22 : Nat) (g23 : Nat) (g24 : Nat) (w25 : Int32) (w26 : Int32) (w27 : Int32) (g28 : Nat) (g29 : Nat) (w30 : Int32) (g31 : Nat) (g32 : Nat) (g33 : Nat) (fa : Nat → Int32) (fq : Nat → Int32) (fm : Nat → Int32) (fn : Nat → Int64) : Option Value → va_W → Prop := fun rr ww => (∃ (z : Int32) (x1 : Int32) (x2 : Int32), rr = some (.int z) ∧ ww = [(o, .inr (8, [.int (nI 0), .ref g1, .ref g2, .ref g3, .ref g4, .int (nI tp), .int w6, .int w7, .int w8, .int w9, .int w10, .int w11, .int w12, .int w13, .int w14, .ref g15, .int w16, .ref g17, .int w18, .int w19, .ref g20, .int w21, .ref g22, .ref g23, .ref g24, .int w25, .int x1, .int x2, .ref g28, .ref g29, .int w30, .ref g31, .ref g32, .ref g33])), (g1, .inl (T 0, 282, .inl fa)), (g31, .inl (T 0, 4, .inl fq)), (g32, .inl (T 0, 4, .inl fm)), (g33, .inl (T 1, 160, .inr (.inl fn)))])
set_option maxHeartbeats 4000000 in
set_option maxRecDepth 100000 in
theorem m_seen (l : Launch) (D : va_G) (T : Nat → ClassId) (n : Nat) (o : Nat) (row : Int32) (w0 : Int32) (g1 : Nat) (g2 : Nat) (g3 : Nat) (g4 : Nat) (tp : Nat) (w6 : Int32) (w7 : Int32) (w8 : Int32) (w9 : Int32) (w10 : Int32) (w11 : Int32) (w12 : Int32) (w13 : Int32) (w14 : Int32) (g15 : Nat) (w16 : Int32) (g17 : Nat) (w18 : Int32) (w19 : Int32) (g20 : Nat) (w21 : Int32) (g22 : Nat) (g23 : Nat) (g24 : Nat) (w25 : Int32) (w26 : Int32) (w27 : Int32) (g28 : Nat) (g29 : Nat) (w30 : Int32) (g31 : Nat) (g32 : Nat) (g33 : Nat) (fa : Nat → Int32) (fq : Nat → Int32) (fm : Nat → Int32) (fn : Nat → Int64) (h_a : MI n fa) : Ct l yX8_seen cX8_seen 3 (some .int) 3 0 0 D T [.ref o, .int row] [(o, .inr (8, [.int w0, .ref g1, .ref g2, .ref g3, .ref g4, .int (nI tp), .int w6, .int w7, .int w8, .int w9, .int w10, .int w11, .int w12, .int w13, .int w14, .ref g15, .int w16, .ref g17, .int w18, .int w19, .ref g20, .int w21, .ref g22, .ref g23, .ref g24, .int w25, .int w26, .int w27, .ref g28, .ref g29, .int w30, .ref g31, .ref g32, .ref g33])), (g1, .inl (T 0, 282, .inl fa)), (g31, .inl (T 0, 4, .inl fq)), (g32, .inl (T 0, 4, .inl fm)), (g33, .inl (T 1, 160, .inr (.inl fn)))] (q_m_seen T n o row w0 g1 g2 g3 g4 tp w6 w7 w8 w9 w10 w11 w12 w13 w14 g15 w16 g17 w18 w19 g20 w21 g22 g23 g24 w25 w26 w27 g28 g29 w30 g31 g32 g33 fa fq fm fn) := by
  refine Ct.of (cc := cX8_seen) (maxL := 3) (ret := (some .int)) (by decide) (Nat.le_of_ble_eq_true rfl) ?_
  intro p e s m args below meth c A ls hC hnm V hl
  obtain ⟨hx, hb, hr, hml, hown, hts, hlocks⟩ := id hC
  generalize hH : s.heap = H at V ⊢
  clear hH
  have hl : lv_has ls 3 [(0, .ref o), (1, .int row)] := hl
  generalize hlo : ([] : List Loc) = locs at V ⊢
  clear hlo
  have ms0 := ms_rf h_a
  have hn10 := h_a.1
  refine lv_aload_n hx hb dX8_seen_0 rfl (lv_at hl 0 rfl) ?_
  refine lv_iconst (v := (nI 0)) hx hb dX8_seen_1 (by decide +kernel) ?_
  refine g_put hC V (ci := 8) uwX8 tyX8 tyX8_ok nmX8 0 rfl rfl 0 (by decide) w_912 rfl rfl rfl rfl (Nat.le_of_ble_eq_true rfl) (ws' := [(o, .inr (8, [.int (nI 0), .ref g1, .ref g2, .ref g3, .ref g4, .int (nI tp), .int w6, .int w7, .int w8, .int w9, .int w10, .int w11, .int w12, .int w13, .int w14, .ref g15, .int w16, .ref g17, .int w18, .int w19, .ref g20, .int w21, .ref g22, .ref g23, .ref g24, .int w25, .int w26, .int w27, .ref g28, .ref g29, .int w30, .ref g31, .ref g32, .ref g33])), (g1, .inl (T 0, 282, .inl fa)), (g31, .inl (T 0, 4, .inl fq)), (g32, .inl (T 0, 4, .inl fm)), (g33, .inl (T 1, 160, .inr (.inl fn)))]) rfl dX8_seen_2 (fun H locs V => ?_)
  refine lv_aload_n hx hb dX8_seen_5 rfl (lv_at hl 0 rfl) ?_
  refine lv_iload_n hx hb dX8_seen_6 rfl (lv_at hl 1 rfl) ?_
  refine g_callV (wr := []) (nA := 1) hC V hl.1 (m_refusesSeen l D T n o row (nI 0) g1 g2 g3 g4 tp w6 w7 w8 w9 w10 w11 w12 w13 w14 g15 w16 g17 w18 w19 g20 w21 g22 g23 g24 w25 w26 w27 g28 g29 w30 g31 g32 g33 fa fq fm fn h_a) w_1304 w_1306 w_s73 w_9 w_1307 (by decide +kernel) rfl ⟨(Nat.le_of_ble_eq_true rfl), (Nat.le_of_ble_eq_true rfl)⟩ 0 (ci := 8) rfl rfl [0, 1, 2, 3, 4] [] rfl rfl rfl rfl (by decide) (Nat.le_of_ble_eq_true rfl) dX8_seen_7 ⟨(Nat.le_of_ble_eq_true rfl), (Nat.le_of_ble_eq_true rfl)⟩ rfl (fun r w1 H locs hQ V => ?_)
  rcases hQ with ⟨r_1, rfl, rfl, f_2, f_3⟩ | ⟨z_4, rfl, rfl, f_5⟩
  · have V : gW D T A s [(o, .inr (8, [.int (nI 0), .ref g1, .ref g2, .ref g3, .ref g4, .int (nI tp), .int w6, .int w7, .int w8, .int w9, .int w10, .int w11, .int w12, .int w13, .int w14, .ref g15, .int w16, .ref g17, .int w18, .int w19, .ref g20, .int w21, .ref g22, .ref g23, .ref g24, .int w25, .int w26, .int w27, .ref g28, .ref g29, .int w30, .ref g31, .ref g32, .ref g33])), (g1, .inl (T 0, 282, .inl fa)), (g31, .inl (T 0, 4, .inl fq)), (g32, .inl (T 0, 4, .inl fm)), (g33, .inl (T 1, 160, .inr (.inl fn)))] H locs := V
    show W p l e _ s m args below meth c H locs _ _ _ (F0 m 10 ls [.int (nI 0)])
    rw [f_3] at hl
    refine lv_istore_n (lv' := [(2, .int (nI 0)), (0, .ref o), (1, .int (nI r_1))]) hx hb dX8_seen_10 rfl hl (by decide) rfl (fun ls hl => ?_)
    refine lv_iload_n hx hb dX8_seen_11 rfl (lv_at hl 0 rfl) ?_
    refine lv_if_eq (tgt := 19) hx hb dX8_seen_12 (by decide) (fun _ => ?_) (fun c => absurd (show (nI 0) = 0 by decide +kernel) c)
    refine lv_aload_n hx hb dX8_seen_19 rfl (lv_at hl 1 rfl) ?_
    refine lv_iload_n hx hb dX8_seen_20 rfl (lv_at hl 2 rfl) ?_
    refine g_callVU (nA := 1) hC V hl.1 (m_waysSeen l D T n o r_1 (nI 0) g1 g2 g3 g4 tp w6 w7 w8 w9 w10 w11 w12 w13 w14 g15 w16 g17 w18 w19 g20 w21 g22 g23 g24 w25 w26 w27 g28 g29 w30 g31 g32 g33 fa fm fn h_a (by first | assumption | omega)) w_1308 w_1310 w_s74 w_9 w_1311 (by decide +kernel) rfl ⟨(Nat.le_of_ble_eq_true rfl), (Nat.le_of_ble_eq_true rfl)⟩ 0 (ci := 8) rfl rfl [0, 1, 3, 4] rfl rfl (Nat.le_of_ble_eq_true rfl) dX8_seen_21 ⟨(Nat.le_of_ble_eq_true rfl), (Nat.le_of_ble_eq_true rfl)⟩ rfl (fun r w1 H locs hQ V => ?_)
    obtain ⟨z_6, x1_7, x2_8, rfl, rfl⟩ := hQ
    have V : gW D T A s [(o, .inr (8, [.int (nI 0), .ref g1, .ref g2, .ref g3, .ref g4, .int (nI tp), .int w6, .int w7, .int w8, .int w9, .int w10, .int w11, .int w12, .int w13, .int w14, .ref g15, .int w16, .ref g17, .int w18, .int w19, .ref g20, .int w21, .ref g22, .ref g23, .ref g24, .int w25, .int x1_7, .int x2_8, .ref g28, .ref g29, .int w30, .ref g31, .ref g32, .ref g33])), (g1, .inl (T 0, 282, .inl fa)), (g31, .inl (T 0, 4, .inl fq)), (g32, .inl (T 0, 4, .inl fm)), (g33, .inl (T 1, 160, .inr (.inl fn)))] H locs := V _ [0, 0, 1, 0] rfl rfl rfl (by decide +kernel) rfl
    show W p l e _ s m args below meth c H locs _ _ _ (F0 m 24 ls [.int z_6])
    exact g_iret (Qr := (q_m_seen T n o row w0 g1 g2 g3 g4 tp w6 w7 w8 w9 w10 w11 w12 w13 w14 g15 w16 g17 w18 w19 g20 w21 g22 g23 g24 w25 w26 w27 g28 g29 w30 g31 g32 g33 fa fq fm fn)) hC V ⟨(Nat.le_of_ble_eq_true rfl), (Nat.le_of_ble_eq_true rfl)⟩ ⟨z_6, x1_7, x2_8, rfl, rfl⟩ dX8_seen_24
  · have V : gW D T A s [(o, .inr (8, [.int (nI 0), .ref g1, .ref g2, .ref g3, .ref g4, .int (nI tp), .int w6, .int w7, .int w8, .int w9, .int w10, .int w11, .int w12, .int w13, .int w14, .ref g15, .int w16, .ref g17, .int w18, .int w19, .ref g20, .int w21, .ref g22, .ref g23, .ref g24, .int w25, .int w26, .int w27, .ref g28, .ref g29, .int w30, .ref g31, .ref g32, .ref g33])), (g1, .inl (T 0, 282, .inl fa)), (g31, .inl (T 0, 4, .inl fq)), (g32, .inl (T 0, 4, .inl fm)), (g33, .inl (T 1, 160, .inr (.inl fn)))] H locs := V
    show W p l e _ s m args below meth c H locs _ _ _ (F0 m 10 ls [.int z_4])
    refine lv_istore_n (lv' := [(2, .int z_4), (0, .ref o), (1, .int row)]) hx hb dX8_seen_10 rfl hl (by decide) rfl (fun ls hl => ?_)
    refine lv_iload_n hx hb dX8_seen_11 rfl (lv_at hl 0 rfl) ?_
    refine lv_if_eq (tgt := 19) hx hb dX8_seen_12 (by decide) (fun c_9 => ?_) (fun c_9 => ?_)
    · skip
      exact (absurd c_9 (by assumption) : False).elim
    · skip
      refine lv_iload_n hx hb dX8_seen_15 rfl (lv_at hl 0 rfl) ?_
      refine lv_goto (tgt := 24) hx hb dX8_seen_16 (by decide) ?_
      exact g_iret (Qr := (q_m_seen T n o row w0 g1 g2 g3 g4 tp w6 w7 w8 w9 w10 w11 w12 w13 w14 g15 w16 g17 w18 w19 g20 w21 g22 g23 g24 w25 w26 w27 g28 g29 w30 g31 g32 g33 fa fq fm fn)) hC V ⟨(Nat.le_of_ble_eq_true rfl), (Nat.le_of_ble_eq_true rfl)⟩ ⟨z_4, w26, w27, rfl, rfl⟩ dX8_seen_24

def q_m_sure (T : Nat → ClassId) (n : Nat) (o : Nat) (row : Int32) (pu : Int32) (w0 : Int32) (g1 : Nat) (g2 : Nat) (g3 : Nat) (g4 : Nat) (tp : Nat) (w6 : Int32) (w7 : Int32) (w8 : Int32) (w9 : Int32) (w10 : Int32) (w11 : Int32) (w12 : Int32) (w13 : Int32) (w14 : Int32) (g15 : Nat) (w16 : Int32) (g17 : Nat) (w18 : Int32) (w19 : Int32) (g20 : Nat) (w21 : Int32) (g22 : Nat) (g23 : Nat) (g24 : Nat) (w25 : Int32) (w26 : Int32) (w27 : Int32) (g28 : Nat) (g29 : Nat) (w30 : Int32) (g31 : Nat) (g32 : Nat) (g33 : Nat) (fa : Nat → Int32) (fq : Nat → Int32) (fm : Nat → Int32) (fn : Nat → Int64) : Option Value → va_W → Prop := fun rr ww => (∃ (z : Int32) (x1 : Int32) (x2 : Int32), rr = some (.int z) ∧ ww = [(o, .inr (8, [.int (nI 0), .ref g1, .ref g2, .ref g3, .ref g4, .int (nI tp), .int w6, .int w7, .int w8, .int w9, .int w10, .int w11, .int w12, .int w13, .int w14, .ref g15, .int w16, .ref g17, .int w18, .int w19, .ref g20, .int w21, .ref g22, .ref g23, .ref g24, .int w25, .int x1, .int x2, .ref g28, .ref g29, .int w30, .ref g31, .ref g32, .ref g33])), (g1, .inl (T 0, 282, .inl fa)), (g31, .inl (T 0, 4, .inl fq)), (g32, .inl (T 0, 4, .inl fm)), (g33, .inl (T 1, 160, .inr (.inl fn)))])
set_option maxHeartbeats 4000000 in
set_option maxRecDepth 100000 in
theorem m_sure (l : Launch) (D : va_G) (T : Nat → ClassId) (n : Nat) (o : Nat) (row : Int32) (pu : Int32) (w0 : Int32) (g1 : Nat) (g2 : Nat) (g3 : Nat) (g4 : Nat) (tp : Nat) (w6 : Int32) (w7 : Int32) (w8 : Int32) (w9 : Int32) (w10 : Int32) (w11 : Int32) (w12 : Int32) (w13 : Int32) (w14 : Int32) (g15 : Nat) (w16 : Int32) (g17 : Nat) (w18 : Int32) (w19 : Int32) (g20 : Nat) (w21 : Int32) (g22 : Nat) (g23 : Nat) (g24 : Nat) (w25 : Int32) (w26 : Int32) (w27 : Int32) (g28 : Nat) (g29 : Nat) (w30 : Int32) (g31 : Nat) (g32 : Nat) (g33 : Nat) (fa : Nat → Int32) (fq : Nat → Int32) (fm : Nat → Int32) (fn : Nat → Int64) (h_a : MI n fa) : Ct l yX8_sure cX8_sure 4 (some .int) 3 0 0 D T [.ref o, .int row, .int pu] [(o, .inr (8, [.int w0, .ref g1, .ref g2, .ref g3, .ref g4, .int (nI tp), .int w6, .int w7, .int w8, .int w9, .int w10, .int w11, .int w12, .int w13, .int w14, .ref g15, .int w16, .ref g17, .int w18, .int w19, .ref g20, .int w21, .ref g22, .ref g23, .ref g24, .int w25, .int w26, .int w27, .ref g28, .ref g29, .int w30, .ref g31, .ref g32, .ref g33])), (g1, .inl (T 0, 282, .inl fa)), (g31, .inl (T 0, 4, .inl fq)), (g32, .inl (T 0, 4, .inl fm)), (g33, .inl (T 1, 160, .inr (.inl fn)))] (q_m_sure T n o row pu w0 g1 g2 g3 g4 tp w6 w7 w8 w9 w10 w11 w12 w13 w14 g15 w16 g17 w18 w19 g20 w21 g22 g23 g24 w25 w26 w27 g28 g29 w30 g31 g32 g33 fa fq fm fn) := by
  refine Ct.of (cc := cX8_sure) (maxL := 4) (ret := (some .int)) (by decide) (Nat.le_of_ble_eq_true rfl) ?_
  intro p e s m args below meth c A ls hC hnm V hl
  obtain ⟨hx, hb, hr, hml, hown, hts, hlocks⟩ := id hC
  generalize hH : s.heap = H at V ⊢
  clear hH
  have hl : lv_has ls 4 [(0, .ref o), (1, .int row), (2, .int pu)] := hl
  generalize hlo : ([] : List Loc) = locs at V ⊢
  clear hlo
  have ms0 := ms_rf h_a
  have hn10 := h_a.1
  refine lv_aload_n hx hb dX8_sure_0 rfl (lv_at hl 0 rfl) ?_
  refine lv_iconst (v := (nI 0)) hx hb dX8_sure_1 (by decide +kernel) ?_
  refine g_put hC V (ci := 8) uwX8 tyX8 tyX8_ok nmX8 0 rfl rfl 0 (by decide) w_912 rfl rfl rfl rfl (Nat.le_of_ble_eq_true rfl) (ws' := [(o, .inr (8, [.int (nI 0), .ref g1, .ref g2, .ref g3, .ref g4, .int (nI tp), .int w6, .int w7, .int w8, .int w9, .int w10, .int w11, .int w12, .int w13, .int w14, .ref g15, .int w16, .ref g17, .int w18, .int w19, .ref g20, .int w21, .ref g22, .ref g23, .ref g24, .int w25, .int w26, .int w27, .ref g28, .ref g29, .int w30, .ref g31, .ref g32, .ref g33])), (g1, .inl (T 0, 282, .inl fa)), (g31, .inl (T 0, 4, .inl fq)), (g32, .inl (T 0, 4, .inl fm)), (g33, .inl (T 1, 160, .inr (.inl fn)))]) rfl dX8_sure_2 (fun H locs V => ?_)
  refine lv_aload_n hx hb dX8_sure_5 rfl (lv_at hl 0 rfl) ?_
  refine lv_iload_n hx hb dX8_sure_6 rfl (lv_at hl 1 rfl) ?_
  refine g_callV (wr := []) (nA := 1) hC V hl.1 (m_refusesSeen l D T n o row (nI 0) g1 g2 g3 g4 tp w6 w7 w8 w9 w10 w11 w12 w13 w14 g15 w16 g17 w18 w19 g20 w21 g22 g23 g24 w25 w26 w27 g28 g29 w30 g31 g32 g33 fa fq fm fn h_a) w_1304 w_1306 w_s73 w_9 w_1307 (by decide +kernel) rfl ⟨(Nat.le_of_ble_eq_true rfl), (Nat.le_of_ble_eq_true rfl)⟩ 0 (ci := 8) rfl rfl [0, 1, 2, 3, 4] [] rfl rfl rfl rfl (by decide) (Nat.le_of_ble_eq_true rfl) dX8_sure_7 ⟨(Nat.le_of_ble_eq_true rfl), (Nat.le_of_ble_eq_true rfl)⟩ rfl (fun r w1 H locs hQ V => ?_)
  rcases hQ with ⟨r_1, rfl, rfl, f_2, f_3⟩ | ⟨z_4, rfl, rfl, f_5⟩
  · have V : gW D T A s [(o, .inr (8, [.int (nI 0), .ref g1, .ref g2, .ref g3, .ref g4, .int (nI tp), .int w6, .int w7, .int w8, .int w9, .int w10, .int w11, .int w12, .int w13, .int w14, .ref g15, .int w16, .ref g17, .int w18, .int w19, .ref g20, .int w21, .ref g22, .ref g23, .ref g24, .int w25, .int w26, .int w27, .ref g28, .ref g29, .int w30, .ref g31, .ref g32, .ref g33])), (g1, .inl (T 0, 282, .inl fa)), (g31, .inl (T 0, 4, .inl fq)), (g32, .inl (T 0, 4, .inl fm)), (g33, .inl (T 1, 160, .inr (.inl fn)))] H locs := V
    show W p l e _ s m args below meth c H locs _ _ _ (F0 m 10 ls [.int (nI 0)])
    rw [f_3] at hl
    refine lv_istore_n (lv' := [(3, .int (nI 0)), (0, .ref o), (1, .int (nI r_1)), (2, .int pu)]) hx hb dX8_sure_10 rfl hl (by decide) rfl (fun ls hl => ?_)
    refine lv_iload_n hx hb dX8_sure_11 rfl (lv_at hl 0 rfl) ?_
    refine lv_if_eq (tgt := 17) hx hb dX8_sure_12 (by decide) (fun _ => ?_) (fun c => absurd (show (nI 0) = 0 by decide +kernel) c)
    refine lv_aload_n hx hb dX8_sure_17 rfl (lv_at hl 1 rfl) ?_
    refine lv_iload_n hx hb dX8_sure_18 rfl (lv_at hl 2 rfl) ?_
    refine g_callVU (nA := 1) hC V hl.1 (m_waysSeen l D T n o r_1 (nI 0) g1 g2 g3 g4 tp w6 w7 w8 w9 w10 w11 w12 w13 w14 g15 w16 g17 w18 w19 g20 w21 g22 g23 g24 w25 w26 w27 g28 g29 w30 g31 g32 g33 fa fm fn h_a (by first | assumption | omega)) w_1308 w_1310 w_s74 w_9 w_1311 (by decide +kernel) rfl ⟨(Nat.le_of_ble_eq_true rfl), (Nat.le_of_ble_eq_true rfl)⟩ 0 (ci := 8) rfl rfl [0, 1, 3, 4] rfl rfl (Nat.le_of_ble_eq_true rfl) dX8_sure_19 ⟨(Nat.le_of_ble_eq_true rfl), (Nat.le_of_ble_eq_true rfl)⟩ rfl (fun r w1 H locs hQ V => ?_)
    obtain ⟨z_6, x1_7, x2_8, rfl, rfl⟩ := hQ
    have V : gW D T A s [(o, .inr (8, [.int (nI 0), .ref g1, .ref g2, .ref g3, .ref g4, .int (nI tp), .int w6, .int w7, .int w8, .int w9, .int w10, .int w11, .int w12, .int w13, .int w14, .ref g15, .int w16, .ref g17, .int w18, .int w19, .ref g20, .int w21, .ref g22, .ref g23, .ref g24, .int w25, .int x1_7, .int x2_8, .ref g28, .ref g29, .int w30, .ref g31, .ref g32, .ref g33])), (g1, .inl (T 0, 282, .inl fa)), (g31, .inl (T 0, 4, .inl fq)), (g32, .inl (T 0, 4, .inl fm)), (g33, .inl (T 1, 160, .inr (.inl fn)))] H locs := V _ [0, 0, 1, 0] rfl rfl rfl (by decide +kernel) rfl
    show W p l e _ s m args below meth c H locs _ _ _ (F0 m 22 ls [.int z_6])
    refine lv_if_ne (tgt := 29) hx hb dX8_sure_22 (by decide) (fun c_9 => ?_) (fun c_9 => ?_)
    · skip
      refine lv_iload_n hx hb dX8_sure_29 rfl (lv_at hl 3 rfl) ?_
      refine lv_if_eq (tgt := 40) hx hb dX8_sure_30 (by decide) (fun c_10 => ?_) (fun c_10 => ?_)
      · skip
        refine lv_aload_n hx hb dX8_sure_40 rfl (lv_at hl 1 rfl) ?_
        refine g_get hC V (ci := 8) uwX8 0 rfl rfl 27 (by decide) w_939 rfl rfl dX8_sure_41 ?_
        exact g_iret (Qr := (q_m_sure T n o row pu w0 g1 g2 g3 g4 tp w6 w7 w8 w9 w10 w11 w12 w13 w14 g15 w16 g17 w18 w19 g20 w21 g22 g23 g24 w25 w26 w27 g28 g29 w30 g31 g32 g33 fa fq fm fn)) hC V ⟨(Nat.le_of_ble_eq_true rfl), (Nat.le_of_ble_eq_true rfl)⟩ ⟨x2_8, x1_7, x2_8, rfl, rfl⟩ dX8_sure_44
      · skip
        refine lv_aload_n hx hb dX8_sure_33 rfl (lv_at hl 1 rfl) ?_
        refine g_get hC V (ci := 8) uwX8 0 rfl rfl 26 (by decide) w_938 rfl rfl dX8_sure_34 ?_
        refine lv_goto (tgt := 44) hx hb dX8_sure_37 (by decide) ?_
        exact g_iret (Qr := (q_m_sure T n o row pu w0 g1 g2 g3 g4 tp w6 w7 w8 w9 w10 w11 w12 w13 w14 g15 w16 g17 w18 w19 g20 w21 g22 g23 g24 w25 w26 w27 g28 g29 w30 g31 g32 g33 fa fq fm fn)) hC V ⟨(Nat.le_of_ble_eq_true rfl), (Nat.le_of_ble_eq_true rfl)⟩ ⟨x1_7, x1_7, x2_8, rfl, rfl⟩ dX8_sure_44
    · skip
      refine lv_iconst (v := (nI 0)) hx hb dX8_sure_25 (by decide +kernel) ?_
      refine lv_goto (tgt := 44) hx hb dX8_sure_26 (by decide) ?_
      exact g_iret (Qr := (q_m_sure T n o row pu w0 g1 g2 g3 g4 tp w6 w7 w8 w9 w10 w11 w12 w13 w14 g15 w16 g17 w18 w19 g20 w21 g22 g23 g24 w25 w26 w27 g28 g29 w30 g31 g32 g33 fa fq fm fn)) hC V ⟨(Nat.le_of_ble_eq_true rfl), (Nat.le_of_ble_eq_true rfl)⟩ ⟨(nI 0), x1_7, x2_8, rfl, rfl⟩ dX8_sure_44
  · have V : gW D T A s [(o, .inr (8, [.int (nI 0), .ref g1, .ref g2, .ref g3, .ref g4, .int (nI tp), .int w6, .int w7, .int w8, .int w9, .int w10, .int w11, .int w12, .int w13, .int w14, .ref g15, .int w16, .ref g17, .int w18, .int w19, .ref g20, .int w21, .ref g22, .ref g23, .ref g24, .int w25, .int w26, .int w27, .ref g28, .ref g29, .int w30, .ref g31, .ref g32, .ref g33])), (g1, .inl (T 0, 282, .inl fa)), (g31, .inl (T 0, 4, .inl fq)), (g32, .inl (T 0, 4, .inl fm)), (g33, .inl (T 1, 160, .inr (.inl fn)))] H locs := V
    show W p l e _ s m args below meth c H locs _ _ _ (F0 m 10 ls [.int z_4])
    refine lv_istore_n (lv' := [(3, .int z_4), (0, .ref o), (1, .int row), (2, .int pu)]) hx hb dX8_sure_10 rfl hl (by decide) rfl (fun ls hl => ?_)
    refine lv_iload_n hx hb dX8_sure_11 rfl (lv_at hl 0 rfl) ?_
    refine lv_if_eq (tgt := 17) hx hb dX8_sure_12 (by decide) (fun c_11 => ?_) (fun c_11 => ?_)
    · skip
      exact (absurd c_11 (by assumption) : False).elim
    · skip
      refine lv_iload_n hx hb dX8_sure_15 rfl (lv_at hl 0 rfl) ?_
      exact g_iret (Qr := (q_m_sure T n o row pu w0 g1 g2 g3 g4 tp w6 w7 w8 w9 w10 w11 w12 w13 w14 g15 w16 g17 w18 w19 g20 w21 g22 g23 g24 w25 w26 w27 g28 g29 w30 g31 g32 g33 fa fq fm fn)) hC V ⟨(Nat.le_of_ble_eq_true rfl), (Nat.le_of_ble_eq_true rfl)⟩ ⟨z_4, w26, w27, rfl, rfl⟩ dX8_sure_16

theorem wm_1 {cm : Int32} {j : Nat} (h : ∃ p, p ≤ 60 * 10 ∧ cm = nI p - nI j) (hj : j < 31) (hc : 0 < cm) : ∃ q, 1 ≤ q ∧ q ≤ 700 ∧ cm = nI q := by
  obtain ⟨p, hp, e⟩ := h
  by_cases c : j ≤ p
  · rw [nI_sub c] at e
    refine ⟨p - j, ?_, by omega, e⟩
    rcases Nat.eq_zero_or_pos (p - j) with h0 | h0
    · rw [h0] at e
      rw [e] at hc
      exact absurd hc (by decide +kernel)
    · exact h0
  · exfalso
    rw [e] at hc
    exact absurd hc (Int32.not_lt.mpr (Int32.le_of_lt (neg_sub (by omega) (by omega))))
theorem wm_0 {j : Nat} : ∃ p, p ≤ 60 * 0 ∧ -(nI j) = nI p - nI j := ⟨0, Nat.le_refl _, by rw [show nI 0 = 0 by decide +kernel, Int32.zero_sub]⟩
theorem wm_s {cm : Int32} {k j b : Nat} (h : ∃ p, p ≤ 60 * k ∧ cm = nI p - nI j) (hb : b < 61) : ∃ p, p ≤ 60 * (k + 1) ∧ cm + nI b = nI p - nI j := by
  obtain ⟨p, hp, e⟩ := h
  refine ⟨p + b, by omega, ?_⟩
  rw [e, ← nI_add, Int32.sub_eq_add_neg, Int32.sub_eq_add_neg, Int32.add_assoc, Int32.add_assoc, Int32.add_comm (-nI j) (nI b)]
theorem wm_s0 {cm : Int32} {k j : Nat} (h : ∃ p, p ≤ 60 * k ∧ cm = nI p - nI j) : ∃ p, p ≤ 60 * (k + 1) ∧ cm + nI 0 = nI p - nI j := wm_s h (by decide)
theorem wm_n {cm : Int32} {k j : Nat} (h : ∃ p, p ≤ 60 * k ∧ cm = nI p - nI j) (hk : k ≤ 10) : ∃ p, p ≤ 60 * 10 ∧ cm = nI p - nI j := by
  obtain ⟨p, hp, e⟩ := h
  exact ⟨p, by omega, e⟩

def q_m_warm (T : Nat → ClassId) (n : Nat) (o : Nat) (i : Int32) (ht : Int32) (w0 : Int32) (g1 : Nat) (g2 : Nat) (g3 : Nat) (g4 : Nat) (tp : Nat) (w6 : Int32) (w7 : Int32) (w8 : Int32) (w9 : Int32) (w10 : Int32) (w11 : Int32) (w12 : Int32) (w13 : Int32) (w14 : Int32) (g15 : Nat) (w16 : Int32) (g17 : Nat) (w18 : Int32) (w19 : Int32) (g20 : Nat) (w21 : Int32) (g22 : Nat) (g23 : Nat) (g24 : Nat) (w25 : Int32) (w26 : Int32) (w27 : Int32) (g28 : Nat) (g29 : Nat) (w30 : Int32) (g31 : Nat) (g32 : Nat) (g33 : Nat) (fa : Nat → Int32) : Option Value → va_W → Prop := fun rr ww => (∃ (z : Int32), rr = some (.int z) ∧ ww = [(o, .inr (8, [.int (nI 0), .ref g1, .ref g2, .ref g3, .ref g4, .int (nI tp), .int w6, .int w7, .int w8, .int w9, .int w10, .int w11, .int w12, .int w13, .int w14, .ref g15, .int w16, .ref g17, .int w18, .int w19, .ref g20, .int w21, .ref g22, .ref g23, .ref g24, .int w25, .int w26, .int w27, .ref g28, .ref g29, .int w30, .ref g31, .ref g32, .ref g33])), (g1, .inl (T 0, 282, .inl fa))])
set_option maxHeartbeats 4000000 in
set_option maxRecDepth 100000 in
theorem m_warm (l : Launch) (D : va_G) (T : Nat → ClassId) (n : Nat) (o : Nat) (i : Int32) (ht : Int32) (w0 : Int32) (g1 : Nat) (g2 : Nat) (g3 : Nat) (g4 : Nat) (tp : Nat) (w6 : Int32) (w7 : Int32) (w8 : Int32) (w9 : Int32) (w10 : Int32) (w11 : Int32) (w12 : Int32) (w13 : Int32) (w14 : Int32) (g15 : Nat) (w16 : Int32) (g17 : Nat) (w18 : Int32) (w19 : Int32) (g20 : Nat) (w21 : Int32) (g22 : Nat) (g23 : Nat) (g24 : Nat) (w25 : Int32) (w26 : Int32) (w27 : Int32) (g28 : Nat) (g29 : Nat) (w30 : Int32) (g31 : Nat) (g32 : Nat) (g33 : Nat) (fa : Nat → Int32) (h_a : MI n fa) : Ct l yX8_warm cX8_warm 6 (some .int) 2 0 0 D T [.ref o, .int i, .int ht] [(o, .inr (8, [.int w0, .ref g1, .ref g2, .ref g3, .ref g4, .int (nI tp), .int w6, .int w7, .int w8, .int w9, .int w10, .int w11, .int w12, .int w13, .int w14, .ref g15, .int w16, .ref g17, .int w18, .int w19, .ref g20, .int w21, .ref g22, .ref g23, .ref g24, .int w25, .int w26, .int w27, .ref g28, .ref g29, .int w30, .ref g31, .ref g32, .ref g33])), (g1, .inl (T 0, 282, .inl fa))] (q_m_warm T n o i ht w0 g1 g2 g3 g4 tp w6 w7 w8 w9 w10 w11 w12 w13 w14 g15 w16 g17 w18 w19 g20 w21 g22 g23 g24 w25 w26 w27 g28 g29 w30 g31 g32 g33 fa) := by
  refine Ct.of (cc := cX8_warm) (maxL := 6) (ret := (some .int)) (by decide) (Nat.le_of_ble_eq_true rfl) ?_
  intro p e s m args below meth c A ls hC hnm V hl
  obtain ⟨hx, hb, hr, hml, hown, hts, hlocks⟩ := id hC
  generalize hH : s.heap = H at V ⊢
  clear hH
  have hl : lv_has ls 6 [(0, .ref o), (1, .int i), (2, .int ht)] := hl
  generalize hlo : ([] : List Loc) = locs at V ⊢
  clear hlo
  have ms0 := ms_rf h_a
  have hn10 := h_a.1
  refine lv_aload_n hx hb dX8_warm_0 rfl (lv_at hl 0 rfl) ?_
  refine lv_iconst (v := (nI 0)) hx hb dX8_warm_1 (by decide +kernel) ?_
  refine g_put hC V (ci := 8) uwX8 tyX8 tyX8_ok nmX8 0 rfl rfl 0 (by decide) w_912 rfl rfl rfl rfl (Nat.le_of_ble_eq_true rfl) (ws' := [(o, .inr (8, [.int (nI 0), .ref g1, .ref g2, .ref g3, .ref g4, .int (nI tp), .int w6, .int w7, .int w8, .int w9, .int w10, .int w11, .int w12, .int w13, .int w14, .ref g15, .int w16, .ref g17, .int w18, .int w19, .ref g20, .int w21, .ref g22, .ref g23, .ref g24, .int w25, .int w26, .int w27, .ref g28, .ref g29, .int w30, .ref g31, .ref g32, .ref g33])), (g1, .inl (T 0, 282, .inl fa))]) rfl dX8_warm_2 (fun H locs V => ?_)
  refine lv_aload_n hx hb dX8_warm_5 rfl (lv_at hl 0 rfl) ?_
  refine lv_iload_n hx hb dX8_warm_6 rfl (lv_at hl 1 rfl) ?_
  refine g_callV (wr := []) (nA := 1) hC V hl.1 (m_isSmith l D T n o i (nI 0) g1 g2 g3 g4 tp w6 w7 w8 w9 w10 w11 w12 w13 w14 g15 w16 g17 w18 w19 g20 w21 g22 g23 g24 w25 w26 w27 g28 g29 w30 g31 g32 g33 fa h_a) w_1083 w_1085 w_s46 w_9 w_1086 (by decide +kernel) rfl ⟨(Nat.le_of_ble_eq_true rfl), (Nat.le_of_ble_eq_true rfl)⟩ 0 (ci := 8) rfl rfl [0, 1] [] rfl rfl rfl rfl (by decide) (Nat.le_of_ble_eq_true rfl) dX8_warm_7 ⟨(Nat.le_of_ble_eq_true rfl), (Nat.le_of_ble_eq_true rfl)⟩ rfl (fun r w1 H locs hQ V => ?_)
  rcases hQ with ⟨j_1, rfl, rfl, f_2, f_3⟩ | ⟨rfl, rfl⟩
  · have V : gW D T A s [(o, .inr (8, [.int (nI 0), .ref g1, .ref g2, .ref g3, .ref g4, .int (nI tp), .int w6, .int w7, .int w8, .int w9, .int w10, .int w11, .int w12, .int w13, .int w14, .ref g15, .int w16, .ref g17, .int w18, .int w19, .ref g20, .int w21, .ref g22, .ref g23, .ref g24, .int w25, .int w26, .int w27, .ref g28, .ref g29, .int w30, .ref g31, .ref g32, .ref g33])), (g1, .inl (T 0, 282, .inl fa))] H locs := V
    show W p l e _ s m args below meth c H locs _ _ _ (F0 m 10 ls [.int (nI 1)])
    rw [f_2] at hl
    refine lv_if_ne (tgt := 16) hx hb dX8_warm_10 (by decide) (fun _ => ?_) (fun c => absurd (show (nI 1) = 0 from c) (by decide +kernel))
    refine lv_iload_n hx hb dX8_warm_16 rfl (lv_at hl 2 rfl) ?_
    refine lv_i2l (v := ht.toInt64) hx hb dX8_warm_17 rfl ?_
    refine lv_lconst (v := (nI 0).toInt64) hx hb dX8_warm_18 (by decide +kernel) ?_
    refine lv_ldc2 (v := (200)) hx hb hown (hts _ w_1178) dX8_warm_19 ?_
    refine g_vl (y := (nI 200).toInt64) (by decide +kernel) ?_
    refine g_callSU (nA := 3) hC V hl.1 (m_within l D T ht (nI 0) (nI 200)) w_1023 w_1024 w_9 w_1025 (by decide +kernel) rfl ⟨(Nat.le_of_ble_eq_true rfl), (Nat.le_of_ble_eq_true rfl)⟩ [] rfl rfl (Nat.le_of_ble_eq_true rfl) dX8_warm_22 ⟨(Nat.le_of_ble_eq_true rfl), (Nat.le_of_ble_eq_true rfl)⟩ rfl (fun r w1 H locs hQ V => ?_)
    rcases hQ with ⟨rfl, rfl, f_4, f_5⟩ | ⟨rfl, rfl, f_6⟩
    · have V : gW D T A s [(o, .inr (8, [.int (nI 0), .ref g1, .ref g2, .ref g3, .ref g4, .int (nI tp), .int w6, .int w7, .int w8, .int w9, .int w10, .int w11, .int w12, .int w13, .int w14, .ref g15, .int w16, .ref g17, .int w18, .int w19, .ref g20, .int w21, .ref g22, .ref g23, .ref g24, .int w25, .int w26, .int w27, .ref g28, .ref g29, .int w30, .ref g31, .ref g32, .ref g33])), (g1, .inl (T 0, 282, .inl fa))] H locs := V _ [] rfl rfl rfl (by decide +kernel) rfl
      show W p l e _ s m args below meth c H locs _ _ _ (F0 m 25 ls [.int (nI 1)])
      obtain ⟨jh, hjh1, hjh2, ejh⟩ := g_rng (by first | decide | omega) (by first | decide | omega) f_4 f_5
      rw [ejh] at hl
      refine lv_if_ne (tgt := 31) hx hb dX8_warm_25 (by decide) (fun _ => ?_) (fun c => absurd (show (nI 1) = 0 from c) (by decide +kernel))
      refine lv_aload_n hx hb dX8_warm_31 rfl (lv_at hl 0 rfl) ?_
      refine g_get hC V (ci := 8) uwX8 0 rfl rfl 1 (by decide) w_913 rfl rfl dX8_warm_32 ?_
      refine lv_bipush (v := (nI 14)) hx hb dX8_warm_35 (by decide +kernel) ?_
      refine lv_iload_n hx hb dX8_warm_37 rfl (lv_at hl 1 rfl) ?_
      refine lv_iadd hx hb dX8_warm_38 ?_
      refine g_vi (y := (nI (14 + j_1))) (nI_add _ _) ?_
      obtain ⟨j_7, hj_7, ej_7⟩ := bd_ex (mi_cool h_a (i := j_1) (by omega))
      refine g_iald hC V 1 rfl (vp_in_nI (by omega) (by omega)) (v := (nI j_7)) (by rw [nI_clamp (by omega)]; exact ej_7) dX8_warm_39 ?_
      refine lv_ineg hx hb dX8_warm_40 ?_
      obtain ⟨j_cool, hj_cool, ej_cool⟩ : ∃ x, x < 31 ∧ x = j_7 := ⟨_, by omega, rfl⟩
      rw [← ej_cool]
      refine lv_istore_n (lv' := [(3, .int (-(nI j_cool))), (0, .ref o), (1, .int (nI j_1)), (2, .int (nI jh))]) hx hb dX8_warm_41 rfl hl (by decide) rfl (fun ls hl => ?_)
      refine lv_iconst (v := (nI 0)) hx hb dX8_warm_42 (by decide +kernel) ?_
      refine lv_istore (lv' := [(4, .int (nI 0)), (3, .int (-(nI j_cool))), (0, .ref o), (1, .int (nI j_1)), (2, .int (nI jh))]) hx hb dX8_warm_43 hl (by decide) rfl (fun ls hl => ?_)
      have L_8 : ∀ (fu : Nat) (k45 : Nat) (cm : Int32), k45 ≤ n → (∃ p, p ≤ 60 * k45 ∧ cm = nI p - nI j_cool) → n - k45 < fu → ∀ (H : Heap) (locs : List Loc) (ls : Array Slot), gW D T A s [(o, .inr (8, [.int (nI 0), .ref g1, .ref g2, .ref g3, .ref g4, .int (nI tp), .int w6, .int w7, .int w8, .int w9, .int w10, .int w11, .int w12, .int w13, .int w14, .ref g15, .int w16, .ref g17, .int w18, .int w19, .ref g20, .int w21, .ref g22, .ref g23, .ref g24, .int w25, .int w26, .int w27, .ref g28, .ref g29, .int w30, .ref g31, .ref g32, .ref g33])), (g1, .inl (T 0, 282, .inl fa))] H locs → lv_has ls 6 [(4, .int (nI k45)), (3, .int cm), (0, .ref o), (1, .int (nI j_1)), (2, .int (nI jh))] → W p l e (rmD 2 0 0) s m args below meth c H locs 0 0 (MQ below (gQ D A (q_m_warm T n o i ht w0 g1 g2 g3 g4 tp w6 w7 w8 w9 w10 w11 w12 w13 w14 g15 w16 g17 w18 w19 g20 w21 g22 g23 g24 w25 w26 w27 g28 g29 w30 g31 g32 g33 fa)) args s 0 0 A) (F0 m 45 ls []) := by
        intro fu_45
        induction fu_45 with
        | zero => intro k45 cm hk45 hcm hmu; exact absurd hmu (Nat.not_lt_zero _)
        | succ fu_45 ih_45 =>
          intro k45 cm hk45 hcm hmu_45 H locs ls V hl
          refine lv_iload hx hb dX8_warm_45 (lv_at hl 0 rfl) ?_
          refine lv_aload_n hx hb dX8_warm_47 rfl (lv_at hl 2 rfl) ?_
          refine g_get hC V (ci := 8) uwX8 0 rfl rfl 1 (by decide) w_913 rfl rfl dX8_warm_48 ?_
          refine lv_iconst (v := (nI 0)) hx hb dX8_warm_51 (by decide +kernel) ?_
          refine g_iald hC V 1 rfl (vp_in_nI (by decide) (by decide)) (v := (nI n)) (by rw [nI_clamp (by decide)]; first | rfl | exact h_a.2.1) dX8_warm_52 ?_
          refine lv_icmp_ge (tgt := 92) hx hb dX8_warm_53 (by decide) (fun c_9 => ?_) (fun c_9 => ?_)
          · skip
            have c_9 := b_le (by omega) (by omega) c_9
            have hcm10 := wm_n hcm (by omega)
            refine lv_aload_n hx hb dX8_warm_92 rfl (lv_at hl 2 rfl) ?_
            refine g_get hC V (ci := 8) uwX8 0 rfl rfl 1 (by decide) w_913 rfl rfl dX8_warm_93 ?_
            refine lv_bipush (v := (nI 24)) hx hb dX8_warm_96 (by decide +kernel) ?_
            refine lv_iload_n hx hb dX8_warm_98 rfl (lv_at hl 3 rfl) ?_
            refine lv_iadd hx hb dX8_warm_99 ?_
            refine g_vi (y := (nI (24 + j_1))) (nI_add _ _) ?_
            obtain ⟨j_10, hj_10, ej_10⟩ := bd_ex (mi_heat h_a (i := j_1) (by omega))
            refine g_iald hC V 1 rfl (vp_in_nI (by omega) (by omega)) (v := (nI j_10)) (by rw [nI_clamp (by omega)]; exact ej_10) dX8_warm_100 ?_
            refine lv_istore (lv' := [(4, .int (nI j_10)), (3, .int cm), (0, .ref o), (1, .int (nI j_1)), (2, .int (nI jh))]) hx hb dX8_warm_101 hl (by decide) rfl (fun ls hl => ?_)
            refine lv_iconst (v := (nI 0)) hx hb dX8_warm_103 (by decide +kernel) ?_
            refine lv_istore (lv' := [(5, .int (nI 0)), (4, .int (nI j_10)), (3, .int cm), (0, .ref o), (1, .int (nI j_1)), (2, .int (nI jh))]) hx hb dX8_warm_104 hl (by decide) rfl (fun ls hl => ?_)
            have L_11 : ∀ (fu : Nat) (now_ : Nat) (x106_5 : Int32), now_ ≤ 255 → 256 - now_ < fu → ∀ (H : Heap) (locs : List Loc) (ls : Array Slot), gW D T A s [(o, .inr (8, [.int (nI 0), .ref g1, .ref g2, .ref g3, .ref g4, .int (nI tp), .int w6, .int w7, .int w8, .int w9, .int w10, .int w11, .int w12, .int w13, .int w14, .ref g15, .int w16, .ref g17, .int w18, .int w19, .ref g20, .int w21, .ref g22, .ref g23, .ref g24, .int w25, .int w26, .int w27, .ref g28, .ref g29, .int w30, .ref g31, .ref g32, .ref g33])), (g1, .inl (T 0, 282, .inl fa))] H locs → lv_has ls 6 [(5, .int x106_5), (4, .int (nI now_)), (3, .int cm), (0, .ref o), (1, .int (nI j_1)), (2, .int (nI jh))] → W p l e (rmD 2 0 0) s m args below meth c H locs 0 0 (MQ below (gQ D A (q_m_warm T n o i ht w0 g1 g2 g3 g4 tp w6 w7 w8 w9 w10 w11 w12 w13 w14 g15 w16 g17 w18 w19 g20 w21 g22 g23 g24 w25 w26 w27 g28 g29 w30 g31 g32 g33 fa)) args s 0 0 A) (F0 m 106 ls []) := by
              intro fu_106
              induction fu_106 with
              | zero => intro now_ x106_5 hnow hmu; exact absurd hmu (Nat.not_lt_zero _)
              | succ fu_106 ih_106 =>
                intro now_ x106_5 hnow hmu_106 H locs ls V hl
                refine lv_iload hx hb dX8_warm_106 (lv_at hl 1 rfl) ?_
                refine lv_iload_n hx hb dX8_warm_108 rfl (lv_at hl 5 rfl) ?_
                refine lv_icmp_ge (tgt := 133) hx hb dX8_warm_109 (by decide) (fun c_12 => ?_) (fun c_12 => ?_)
                · skip
                  have c_12 := b_le (by omega) (by omega) c_12
                  refine lv_iload hx hb dX8_warm_133 (lv_at hl 0 rfl) ?_
                  exact g_iret (Qr := (q_m_warm T n o i ht w0 g1 g2 g3 g4 tp w6 w7 w8 w9 w10 w11 w12 w13 w14 g15 w16 g17 w18 w19 g20 w21 g22 g23 g24 w25 w26 w27 g28 g29 w30 g31 g32 g33 fa)) hC V ⟨(Nat.le_of_ble_eq_true rfl), (Nat.le_of_ble_eq_true rfl)⟩ ⟨x106_5, rfl, rfl⟩ dX8_warm_135
                · skip
                  have c_12 := b_nle (by omega) (by omega) c_12
                  refine lv_iload_n hx hb dX8_warm_112 rfl (lv_at hl 2 rfl) ?_
                  refine lv_if_gt (tgt := 118) hx hb dX8_warm_113 (by decide) (fun c_13 => ?_) (fun c_13 => ?_)
                  · skip
                    obtain ⟨q_, hq1, hq2, eq_⟩ := wm_1 hcm10 (by omega) c_13
                    refine lv_iload hx hb dX8_warm_118 (lv_at hl 1 rfl) ?_
                    refine lv_iload_n hx hb dX8_warm_120 rfl (lv_at hl 2 rfl) ?_
                    refine lv_iadd hx hb dX8_warm_121 ?_
                    refine g_callSU (nA := 1) hC V hl.1 (m_inBounds l D T ((nI now_) + cm)) w_1133 w_1134 w_9 w_1135 (by decide +kernel) rfl ⟨(Nat.le_of_ble_eq_true rfl), (Nat.le_of_ble_eq_true rfl)⟩ [] rfl rfl (Nat.le_of_ble_eq_true rfl) dX8_warm_122 ⟨(Nat.le_of_ble_eq_true rfl), (Nat.le_of_ble_eq_true rfl)⟩ rfl (fun r w1 H locs hQ V => ?_)
                    obtain ⟨z_14, rfl, rfl, f_15, f_16⟩ := hQ
                    have V : gW D T A s [(o, .inr (8, [.int (nI 0), .ref g1, .ref g2, .ref g3, .ref g4, .int (nI tp), .int w6, .int w7, .int w8, .int w9, .int w10, .int w11, .int w12, .int w13, .int w14, .ref g15, .int w16, .ref g17, .int w18, .int w19, .ref g20, .int w21, .ref g22, .ref g23, .ref g24, .int w25, .int w26, .int w27, .ref g28, .ref g29, .int w30, .ref g31, .ref g32, .ref g33])), (g1, .inl (T 0, 282, .inl fa))] H locs := V _ [] rfl rfl rfl (by decide +kernel) rfl
                    show W p l e _ s m args below meth c H locs _ _ _ (F0 m 125 ls [.int z_14])
                    obtain ⟨r_17, hr_17, er_17⟩ := f_15
                    refine g_vi (y := nI r_17) er_17 ?_
                    have hup := ib_up (a := now_) (by omega) hq1 hq2 ((er_17.symm.trans f_16).trans (by rw [eq_])) (by omega)
                    refine lv_istore (lv' := [(4, .int (nI r_17)), (5, .int x106_5), (3, .int cm), (0, .ref o), (1, .int (nI j_1)), (2, .int (nI jh))]) hx hb dX8_warm_125 hl (by decide) rfl (fun ls hl => ?_)
                    refine lv_iinc (v := (x106_5 + 1)) (lv' := [(5, .int (x106_5 + 1)), (4, .int (nI r_17)), (3, .int cm), (0, .ref o), (1, .int (nI j_1)), (2, .int (nI jh))]) hx hb dX8_warm_127 hl (k := 1) rfl rfl (by decide) rfl (fun ls hl => ?_)
                    refine lv_goto (tgt := 106) hx hb dX8_warm_130 (by decide) ?_
                    exact ih_106 r_17 (x106_5 + 1) (by omega) (by omega) _ _ _ V (lv_sub hl [0, 1, 2, 3, 4, 5] rfl)
                  · skip
                    refine lv_iconst (v := (-1)) hx hb dX8_warm_116 (by decide +kernel) ?_
                    exact g_iret (Qr := (q_m_warm T n o i ht w0 g1 g2 g3 g4 tp w6 w7 w8 w9 w10 w11 w12 w13 w14 g15 w16 g17 w18 w19 g20 w21 g22 g23 g24 w25 w26 w27 g28 g29 w30 g31 g32 g33 fa)) hC V ⟨(Nat.le_of_ble_eq_true rfl), (Nat.le_of_ble_eq_true rfl)⟩ ⟨(-1), rfl, rfl⟩ dX8_warm_117
            exact L_11 _ j_10 (nI 0) (by omega) (Nat.lt_succ_self _) _ _ _ V (lv_sub hl [0, 1, 2, 3, 4, 5] rfl)
          · skip
            have c_9 := b_nle (by omega) (by omega) c_9
            refine lv_iload_n hx hb dX8_warm_56 rfl (lv_at hl 1 rfl) ?_
            refine lv_aload_n hx hb dX8_warm_57 rfl (lv_at hl 2 rfl) ?_
            refine g_get hC V (ci := 8) uwX8 0 rfl rfl 1 (by decide) w_913 rfl rfl dX8_warm_58 ?_
            refine lv_bipush (v := (nI 84)) hx hb dX8_warm_61 (by decide +kernel) ?_
            refine lv_iload hx hb dX8_warm_63 (lv_at hl 0 rfl) ?_
            refine lv_iadd hx hb dX8_warm_65 ?_
            refine g_vi (y := (nI (84 + k45))) (nI_add _ _) ?_
            obtain ⟨j_18, hj_18, ej_18⟩ := bd_ex (mi_to h_a (i := k45) (by omega))
            refine g_iald hC V 1 rfl (vp_in_nI (by omega) (by omega)) (v := (nI j_18)) (by rw [nI_clamp (by omega)]; exact ej_18) dX8_warm_66 ?_
            refine lv_iload_n hx hb dX8_warm_67 rfl (lv_at hl 3 rfl) ?_
            refine lv_icmp_ne (tgt := 83) hx hb dX8_warm_68 (by decide) (fun c_19 => ?_) (fun c_19 => ?_)
            · skip
              have c_19 := b_ne (by omega) (by omega) c_19
              refine lv_iconst (v := (nI 0)) hx hb dX8_warm_83 (by decide +kernel) ?_
              refine lv_iadd hx hb dX8_warm_84 ?_
              refine lv_istore_n (lv' := [(3, .int (cm + (nI 0))), (4, .int (nI k45)), (0, .ref o), (1, .int (nI j_1)), (2, .int (nI jh))]) hx hb dX8_warm_85 rfl hl (by decide) rfl (fun ls hl => ?_)
              refine lv_iinc (v := (nI (k45 + 1))) (lv' := [(4, .int (nI (k45 + 1))), (3, .int (cm + (nI 0))), (0, .ref o), (1, .int (nI j_1)), (2, .int (nI jh))]) hx hb dX8_warm_86 hl (k := 1) rfl (nI_1 _) (by decide) rfl (fun ls hl => ?_)
              refine lv_goto (tgt := 45) hx hb dX8_warm_89 (by decide) ?_
              exact ih_45 (k45 + 1) (cm + (nI 0)) (by omega) (by first | exact wm_s hcm (by assumption) | exact wm_s0 hcm) (by omega) _ _ _ V (lv_sub hl [0, 1, 2, 3, 4] rfl)
            · skip
              have c_19 := b_eq (by omega) (by omega) c_19
              refine lv_aload_n hx hb dX8_warm_71 rfl (lv_at hl 2 rfl) ?_
              refine g_get hC V (ci := 8) uwX8 0 rfl rfl 1 (by decide) w_913 rfl rfl dX8_warm_72 ?_
              refine lv_iconst (v := (nI 4)) hx hb dX8_warm_75 (by decide +kernel) ?_
              refine lv_iload hx hb dX8_warm_76 (lv_at hl 0 rfl) ?_
              refine lv_iadd hx hb dX8_warm_78 ?_
              refine g_vi (y := (nI (4 + k45))) (nI_add _ _) ?_
              obtain ⟨j_20, hj_20, ej_20⟩ := bd_ex (mi_blast h_a (i := k45) (by omega))
              refine g_iald hC V 1 rfl (vp_in_nI (by omega) (by omega)) (v := (nI j_20)) (by rw [nI_clamp (by omega)]; exact ej_20) dX8_warm_79 ?_
              refine lv_goto (tgt := 84) hx hb dX8_warm_80 (by decide) ?_
              refine lv_iadd hx hb dX8_warm_84 ?_
              refine lv_istore_n (lv' := [(3, .int (cm + (nI j_20))), (4, .int (nI k45)), (0, .ref o), (1, .int (nI j_1)), (2, .int (nI jh))]) hx hb dX8_warm_85 rfl hl (by decide) rfl (fun ls hl => ?_)
              refine lv_iinc (v := (nI (k45 + 1))) (lv' := [(4, .int (nI (k45 + 1))), (3, .int (cm + (nI j_20))), (0, .ref o), (1, .int (nI j_1)), (2, .int (nI jh))]) hx hb dX8_warm_86 hl (k := 1) rfl (nI_1 _) (by decide) rfl (fun ls hl => ?_)
              refine lv_goto (tgt := 45) hx hb dX8_warm_89 (by decide) ?_
              exact ih_45 (k45 + 1) (cm + (nI j_20)) (by omega) (by first | exact wm_s hcm (by assumption) | exact wm_s0 hcm) (by omega) _ _ _ V (lv_sub hl [0, 1, 2, 3, 4] rfl)
      exact L_8 _ 0 (-(nI j_cool)) (by omega) wm_0 (Nat.lt_succ_self _) _ _ _ V (lv_sub hl [0, 1, 2, 3, 4] rfl)
    · have V : gW D T A s [(o, .inr (8, [.int (nI 0), .ref g1, .ref g2, .ref g3, .ref g4, .int (nI tp), .int w6, .int w7, .int w8, .int w9, .int w10, .int w11, .int w12, .int w13, .int w14, .ref g15, .int w16, .ref g17, .int w18, .int w19, .ref g20, .int w21, .ref g22, .ref g23, .ref g24, .int w25, .int w26, .int w27, .ref g28, .ref g29, .int w30, .ref g31, .ref g32, .ref g33])), (g1, .inl (T 0, 282, .inl fa))] H locs := V _ [] rfl rfl rfl (by decide +kernel) rfl
      show W p l e _ s m args below meth c H locs _ _ _ (F0 m 25 ls [.int (nI 0)])
      refine lv_if_ne (tgt := 31) hx hb dX8_warm_25 (by decide) (fun c => absurd (show (nI 0) = 0 by decide +kernel) c) (fun _ => ?_)
      refine lv_bipush (v := (-3)) hx hb dX8_warm_28 (by decide +kernel) ?_
      exact g_iret (Qr := (q_m_warm T n o i ht w0 g1 g2 g3 g4 tp w6 w7 w8 w9 w10 w11 w12 w13 w14 g15 w16 g17 w18 w19 g20 w21 g22 g23 g24 w25 w26 w27 g28 g29 w30 g31 g32 g33 fa)) hC V ⟨(Nat.le_of_ble_eq_true rfl), (Nat.le_of_ble_eq_true rfl)⟩ ⟨(-3), rfl, rfl⟩ dX8_warm_30
  · have V : gW D T A s [(o, .inr (8, [.int (nI 0), .ref g1, .ref g2, .ref g3, .ref g4, .int (nI tp), .int w6, .int w7, .int w8, .int w9, .int w10, .int w11, .int w12, .int w13, .int w14, .ref g15, .int w16, .ref g17, .int w18, .int w19, .ref g20, .int w21, .ref g22, .ref g23, .ref g24, .int w25, .int w26, .int w27, .ref g28, .ref g29, .int w30, .ref g31, .ref g32, .ref g33])), (g1, .inl (T 0, 282, .inl fa))] H locs := V
    show W p l e _ s m args below meth c H locs _ _ _ (F0 m 10 ls [.int (nI 0)])
    refine lv_if_ne (tgt := 16) hx hb dX8_warm_10 (by decide) (fun c => absurd (show (nI 0) = 0 by decide +kernel) c) (fun _ => ?_)
    refine lv_bipush (v := (-2)) hx hb dX8_warm_13 (by decide +kernel) ?_
    exact g_iret (Qr := (q_m_warm T n o i ht w0 g1 g2 g3 g4 tp w6 w7 w8 w9 w10 w11 w12 w13 w14 g15 w16 g17 w18 w19 g20 w21 g22 g23 g24 w25 w26 w27 g28 g29 w30 g31 g32 g33 fa)) hC V ⟨(Nat.le_of_ble_eq_true rfl), (Nat.le_of_ble_eq_true rfl)⟩ ⟨(-2), rfl, rfl⟩ dX8_warm_15

def q_m_cold (T : Nat → ClassId) (n : Nat) (o : Nat) (i : Int32) (w0 : Int32) (g1 : Nat) (g2 : Nat) (g3 : Nat) (g4 : Nat) (tp : Nat) (w6 : Int32) (w7 : Int32) (w8 : Int32) (w9 : Int32) (w10 : Int32) (w11 : Int32) (w12 : Int32) (w13 : Int32) (w14 : Int32) (g15 : Nat) (w16 : Int32) (g17 : Nat) (w18 : Int32) (w19 : Int32) (g20 : Nat) (w21 : Int32) (g22 : Nat) (g23 : Nat) (g24 : Nat) (w25 : Int32) (w26 : Int32) (w27 : Int32) (g28 : Nat) (g29 : Nat) (w30 : Int32) (g31 : Nat) (g32 : Nat) (g33 : Nat) (fa : Nat → Int32) : Option Value → va_W → Prop := fun rr ww => (∃ (z : Int32), rr = some (.int z) ∧ ww = [(o, .inr (8, [.int (nI 0), .ref g1, .ref g2, .ref g3, .ref g4, .int (nI tp), .int w6, .int w7, .int w8, .int w9, .int w10, .int w11, .int w12, .int w13, .int w14, .ref g15, .int w16, .ref g17, .int w18, .int w19, .ref g20, .int w21, .ref g22, .ref g23, .ref g24, .int w25, .int w26, .int w27, .ref g28, .ref g29, .int w30, .ref g31, .ref g32, .ref g33])), (g1, .inl (T 0, 282, .inl fa))])
set_option maxHeartbeats 4000000 in
set_option maxRecDepth 100000 in
theorem m_cold (l : Launch) (D : va_G) (T : Nat → ClassId) (n : Nat) (o : Nat) (i : Int32) (w0 : Int32) (g1 : Nat) (g2 : Nat) (g3 : Nat) (g4 : Nat) (tp : Nat) (w6 : Int32) (w7 : Int32) (w8 : Int32) (w9 : Int32) (w10 : Int32) (w11 : Int32) (w12 : Int32) (w13 : Int32) (w14 : Int32) (g15 : Nat) (w16 : Int32) (g17 : Nat) (w18 : Int32) (w19 : Int32) (g20 : Nat) (w21 : Int32) (g22 : Nat) (g23 : Nat) (g24 : Nat) (w25 : Int32) (w26 : Int32) (w27 : Int32) (g28 : Nat) (g29 : Nat) (w30 : Int32) (g31 : Nat) (g32 : Nat) (g33 : Nat) (fa : Nat → Int32) (h_a : MI n fa) : Ct l yX8_cold cX8_cold 4 (some .int) 2 0 0 D T [.ref o, .int i] [(o, .inr (8, [.int w0, .ref g1, .ref g2, .ref g3, .ref g4, .int (nI tp), .int w6, .int w7, .int w8, .int w9, .int w10, .int w11, .int w12, .int w13, .int w14, .ref g15, .int w16, .ref g17, .int w18, .int w19, .ref g20, .int w21, .ref g22, .ref g23, .ref g24, .int w25, .int w26, .int w27, .ref g28, .ref g29, .int w30, .ref g31, .ref g32, .ref g33])), (g1, .inl (T 0, 282, .inl fa))] (q_m_cold T n o i w0 g1 g2 g3 g4 tp w6 w7 w8 w9 w10 w11 w12 w13 w14 g15 w16 g17 w18 w19 g20 w21 g22 g23 g24 w25 w26 w27 g28 g29 w30 g31 g32 g33 fa) := by
  refine Ct.of (cc := cX8_cold) (maxL := 4) (ret := (some .int)) (by decide) (Nat.le_of_ble_eq_true rfl) ?_
  intro p e s m args below meth c A ls hC hnm V hl
  obtain ⟨hx, hb, hr, hml, hown, hts, hlocks⟩ := id hC
  generalize hH : s.heap = H at V ⊢
  clear hH
  have hl : lv_has ls 4 [(0, .ref o), (1, .int i)] := hl
  generalize hlo : ([] : List Loc) = locs at V ⊢
  clear hlo
  have ms0 := ms_rf h_a
  have hn10 := h_a.1
  refine lv_aload_n hx hb dX8_cold_0 rfl (lv_at hl 0 rfl) ?_
  refine lv_iconst (v := (nI 0)) hx hb dX8_cold_1 (by decide +kernel) ?_
  refine g_put hC V (ci := 8) uwX8 tyX8 tyX8_ok nmX8 0 rfl rfl 0 (by decide) w_912 rfl rfl rfl rfl (Nat.le_of_ble_eq_true rfl) (ws' := [(o, .inr (8, [.int (nI 0), .ref g1, .ref g2, .ref g3, .ref g4, .int (nI tp), .int w6, .int w7, .int w8, .int w9, .int w10, .int w11, .int w12, .int w13, .int w14, .ref g15, .int w16, .ref g17, .int w18, .int w19, .ref g20, .int w21, .ref g22, .ref g23, .ref g24, .int w25, .int w26, .int w27, .ref g28, .ref g29, .int w30, .ref g31, .ref g32, .ref g33])), (g1, .inl (T 0, 282, .inl fa))]) rfl dX8_cold_2 (fun H locs V => ?_)
  refine lv_aload_n hx hb dX8_cold_5 rfl (lv_at hl 0 rfl) ?_
  refine lv_iload_n hx hb dX8_cold_6 rfl (lv_at hl 1 rfl) ?_
  refine g_callV (wr := []) (nA := 1) hC V hl.1 (m_isSmith l D T n o i (nI 0) g1 g2 g3 g4 tp w6 w7 w8 w9 w10 w11 w12 w13 w14 g15 w16 g17 w18 w19 g20 w21 g22 g23 g24 w25 w26 w27 g28 g29 w30 g31 g32 g33 fa h_a) w_1083 w_1085 w_s46 w_9 w_1086 (by decide +kernel) rfl ⟨(Nat.le_of_ble_eq_true rfl), (Nat.le_of_ble_eq_true rfl)⟩ 0 (ci := 8) rfl rfl [0, 1] [] rfl rfl rfl rfl (by decide) (Nat.le_of_ble_eq_true rfl) dX8_cold_7 ⟨(Nat.le_of_ble_eq_true rfl), (Nat.le_of_ble_eq_true rfl)⟩ rfl (fun r w1 H locs hQ V => ?_)
  rcases hQ with ⟨j_1, rfl, rfl, f_2, f_3⟩ | ⟨rfl, rfl⟩
  · have V : gW D T A s [(o, .inr (8, [.int (nI 0), .ref g1, .ref g2, .ref g3, .ref g4, .int (nI tp), .int w6, .int w7, .int w8, .int w9, .int w10, .int w11, .int w12, .int w13, .int w14, .ref g15, .int w16, .ref g17, .int w18, .int w19, .ref g20, .int w21, .ref g22, .ref g23, .ref g24, .int w25, .int w26, .int w27, .ref g28, .ref g29, .int w30, .ref g31, .ref g32, .ref g33])), (g1, .inl (T 0, 282, .inl fa))] H locs := V
    show W p l e _ s m args below meth c H locs _ _ _ (F0 m 10 ls [.int (nI 1)])
    rw [f_2] at hl
    refine lv_if_ne (tgt := 16) hx hb dX8_cold_10 (by decide) (fun _ => ?_) (fun c => absurd (show (nI 1) = 0 from c) (by decide +kernel))
    refine lv_aload_n hx hb dX8_cold_16 rfl (lv_at hl 0 rfl) ?_
    refine g_get hC V (ci := 8) uwX8 0 rfl rfl 1 (by decide) w_913 rfl rfl dX8_cold_17 ?_
    refine lv_bipush (v := (nI 24)) hx hb dX8_cold_20 (by decide +kernel) ?_
    refine lv_iload_n hx hb dX8_cold_22 rfl (lv_at hl 1 rfl) ?_
    refine lv_iadd hx hb dX8_cold_23 ?_
    refine g_vi (y := (nI (24 + j_1))) (nI_add _ _) ?_
    obtain ⟨j_4, hj_4, ej_4⟩ := bd_ex (mi_heat h_a (i := j_1) (by omega))
    refine g_iald hC V 1 rfl (vp_in_nI (by omega) (by omega)) (v := (nI j_4)) (by rw [nI_clamp (by omega)]; exact ej_4) dX8_cold_24 ?_
    refine lv_istore_n (lv' := [(2, .int (nI j_4)), (0, .ref o), (1, .int (nI j_1))]) hx hb dX8_cold_25 rfl hl (by decide) rfl (fun ls hl => ?_)
    refine lv_iconst (v := (nI 0)) hx hb dX8_cold_26 (by decide +kernel) ?_
    refine lv_istore_n (lv' := [(3, .int (nI 0)), (2, .int (nI j_4)), (0, .ref o), (1, .int (nI j_1))]) hx hb dX8_cold_27 rfl hl (by decide) rfl (fun ls hl => ?_)
    have L_5 : ∀ (fu : Nat) (now_ : Nat) (x28_3 : Int32), now_ ≤ 255 → now_ < fu → ∀ (H : Heap) (locs : List Loc) (ls : Array Slot), gW D T A s [(o, .inr (8, [.int (nI 0), .ref g1, .ref g2, .ref g3, .ref g4, .int (nI tp), .int w6, .int w7, .int w8, .int w9, .int w10, .int w11, .int w12, .int w13, .int w14, .ref g15, .int w16, .ref g17, .int w18, .int w19, .ref g20, .int w21, .ref g22, .ref g23, .ref g24, .int w25, .int w26, .int w27, .ref g28, .ref g29, .int w30, .ref g31, .ref g32, .ref g33])), (g1, .inl (T 0, 282, .inl fa))] H locs → lv_has ls 4 [(3, .int x28_3), (2, .int (nI now_)), (0, .ref o), (1, .int (nI j_1))] → W p l e (rmD 2 0 0) s m args below meth c H locs 0 0 (MQ below (gQ D A (q_m_cold T n o i w0 g1 g2 g3 g4 tp w6 w7 w8 w9 w10 w11 w12 w13 w14 g15 w16 g17 w18 w19 g20 w21 g22 g23 g24 w25 w26 w27 g28 g29 w30 g31 g32 g33 fa)) args s 0 0 A) (F0 m 28 ls []) := by
      intro fu_28
      induction fu_28 with
      | zero => intro now_ x28_3 hnow hmu; exact absurd hmu (Nat.not_lt_zero _)
      | succ fu_28 ih_28 =>
        intro now_ x28_3 hnow hmu_28 H locs ls V hl
        refine lv_iload_n hx hb dX8_cold_28 rfl (lv_at hl 1 rfl) ?_
        refine lv_aload_n hx hb dX8_cold_29 rfl (lv_at hl 2 rfl) ?_
        refine g_get hC V (ci := 8) uwX8 0 rfl rfl 1 (by decide) w_913 rfl rfl dX8_cold_30 ?_
        refine lv_bipush (v := (nI 34)) hx hb dX8_cold_33 (by decide +kernel) ?_
        refine lv_iload_n hx hb dX8_cold_35 rfl (lv_at hl 3 rfl) ?_
        refine lv_iadd hx hb dX8_cold_36 ?_
        refine g_vi (y := (nI (34 + j_1))) (nI_add _ _) ?_
        refine g_iald hC V 1 rfl (vp_in_nI (by omega) (by omega)) (v := (fa (34 + j_1))) (congrArg _ (nI_clamp (by omega))) dX8_cold_37 ?_
        refine lv_icmp_lt (tgt := 80) hx hb dX8_cold_38 (by decide) (fun c_6 => ?_) (fun c_6 => ?_)
        · skip
          refine lv_iload_n hx hb dX8_cold_80 rfl (lv_at hl 0 rfl) ?_
          exact g_iret (Qr := (q_m_cold T n o i w0 g1 g2 g3 g4 tp w6 w7 w8 w9 w10 w11 w12 w13 w14 g15 w16 g17 w18 w19 g20 w21 g22 g23 g24 w25 w26 w27 g28 g29 w30 g31 g32 g33 fa)) hC V ⟨(Nat.le_of_ble_eq_true rfl), (Nat.le_of_ble_eq_true rfl)⟩ ⟨x28_3, rfl, rfl⟩ dX8_cold_81
        · skip
          refine lv_aload_n hx hb dX8_cold_41 rfl (lv_at hl 2 rfl) ?_
          refine g_get hC V (ci := 8) uwX8 0 rfl rfl 1 (by decide) w_913 rfl rfl dX8_cold_42 ?_
          refine lv_bipush (v := (nI 14)) hx hb dX8_cold_45 (by decide +kernel) ?_
          refine lv_iload_n hx hb dX8_cold_47 rfl (lv_at hl 3 rfl) ?_
          refine lv_iadd hx hb dX8_cold_48 ?_
          refine g_vi (y := (nI (14 + j_1))) (nI_add _ _) ?_
          obtain ⟨j_7, hj_7, ej_7⟩ := bd_ex (mi_cool h_a (i := j_1) (by omega))
          refine g_iald hC V 1 rfl (vp_in_nI (by omega) (by omega)) (v := (nI j_7)) (by rw [nI_clamp (by omega)]; exact ej_7) dX8_cold_49 ?_
          refine lv_if_eq (tgt := 57) hx hb dX8_cold_50 (by decide) (fun c_8 => ?_) (fun c_8 => ?_)
          · skip
            rw [show (0 : Int32) = nI 0 from rfl] at c_8
            have c_8 := b_eq (by omega) (by omega) c_8
            refine lv_iconst (v := (-1)) hx hb dX8_cold_57 (by decide +kernel) ?_
            exact g_iret (Qr := (q_m_cold T n o i w0 g1 g2 g3 g4 tp w6 w7 w8 w9 w10 w11 w12 w13 w14 g15 w16 g17 w18 w19 g20 w21 g22 g23 g24 w25 w26 w27 g28 g29 w30 g31 g32 g33 fa)) hC V ⟨(Nat.le_of_ble_eq_true rfl), (Nat.le_of_ble_eq_true rfl)⟩ ⟨(-1), rfl, rfl⟩ dX8_cold_58
          · skip
            rw [show (0 : Int32) = nI 0 from rfl] at c_8
            have c_8 := b_ne (by omega) (by omega) c_8
            refine lv_iload_n hx hb dX8_cold_53 rfl (lv_at hl 1 rfl) ?_
            refine lv_if_ne (tgt := 59) hx hb dX8_cold_54 (by decide) (fun c_9 => ?_) (fun c_9 => ?_)
            · skip
              rw [show (0 : Int32) = nI 0 from rfl] at c_9
              have c_9 := b_ne (by omega) (by omega) c_9
              refine lv_iload_n hx hb dX8_cold_59 rfl (lv_at hl 1 rfl) ?_
              refine lv_aload_n hx hb dX8_cold_60 rfl (lv_at hl 2 rfl) ?_
              refine g_get hC V (ci := 8) uwX8 0 rfl rfl 1 (by decide) w_913 rfl rfl dX8_cold_61 ?_
              refine lv_bipush (v := (nI 14)) hx hb dX8_cold_64 (by decide +kernel) ?_
              refine lv_iload_n hx hb dX8_cold_66 rfl (lv_at hl 3 rfl) ?_
              refine lv_iadd hx hb dX8_cold_67 ?_
              refine g_vi (y := (nI (14 + j_1))) (nI_add _ _) ?_
              refine g_iald hC V 1 rfl (vp_in_nI (by omega) (by omega)) (v := (nI j_7)) (by rw [nI_clamp (by omega)]; exact ej_7) dX8_cold_68 ?_
              refine lv_isub hx hb dX8_cold_69 ?_
              refine g_callSU (nA := 1) hC V hl.1 (m_inBounds l D T ((nI now_) - (nI j_7))) w_1133 w_1134 w_9 w_1135 (by decide +kernel) rfl ⟨(Nat.le_of_ble_eq_true rfl), (Nat.le_of_ble_eq_true rfl)⟩ [] rfl rfl (Nat.le_of_ble_eq_true rfl) dX8_cold_70 ⟨(Nat.le_of_ble_eq_true rfl), (Nat.le_of_ble_eq_true rfl)⟩ rfl (fun r w1 H locs hQ V => ?_)
              obtain ⟨z_10, rfl, rfl, f_11, f_12⟩ := hQ
              have V : gW D T A s [(o, .inr (8, [.int (nI 0), .ref g1, .ref g2, .ref g3, .ref g4, .int (nI tp), .int w6, .int w7, .int w8, .int w9, .int w10, .int w11, .int w12, .int w13, .int w14, .ref g15, .int w16, .ref g17, .int w18, .int w19, .ref g20, .int w21, .ref g22, .ref g23, .ref g24, .int w25, .int w26, .int w27, .ref g28, .ref g29, .int w30, .ref g31, .ref g32, .ref g33])), (g1, .inl (T 0, 282, .inl fa))] H locs := V _ [] rfl rfl rfl (by decide +kernel) rfl
              show W p l e _ s m args below meth c H locs _ _ _ (F0 m 73 ls [.int z_10])
              obtain ⟨r_13, hr_13, er_13⟩ := f_11
              refine g_vi (y := nI r_13) er_13 ?_
              have hdn := ib_dn (a := now_) (by omega) (by omega) (by omega) (by omega) (er_13.symm.trans f_12) (by omega)
              refine lv_istore_n (lv' := [(2, .int (nI r_13)), (3, .int x28_3), (0, .ref o), (1, .int (nI j_1))]) hx hb dX8_cold_73 rfl hl (by decide) rfl (fun ls hl => ?_)
              refine lv_iinc (v := (x28_3 + 1)) (lv' := [(3, .int (x28_3 + 1)), (2, .int (nI r_13)), (0, .ref o), (1, .int (nI j_1))]) hx hb dX8_cold_74 hl (k := 1) rfl rfl (by decide) rfl (fun ls hl => ?_)
              refine lv_goto (tgt := 28) hx hb dX8_cold_77 (by decide) ?_
              exact ih_28 r_13 (x28_3 + 1) (by omega) (by omega) _ _ _ V (lv_sub hl [0, 1, 2, 3] rfl)
            · skip
              rw [show (0 : Int32) = nI 0 from rfl] at c_9
              have c_9 := b_eq (by omega) (by omega) c_9
              refine lv_iconst (v := (-1)) hx hb dX8_cold_57 (by decide +kernel) ?_
              exact g_iret (Qr := (q_m_cold T n o i w0 g1 g2 g3 g4 tp w6 w7 w8 w9 w10 w11 w12 w13 w14 g15 w16 g17 w18 w19 g20 w21 g22 g23 g24 w25 w26 w27 g28 g29 w30 g31 g32 g33 fa)) hC V ⟨(Nat.le_of_ble_eq_true rfl), (Nat.le_of_ble_eq_true rfl)⟩ ⟨(-1), rfl, rfl⟩ dX8_cold_58
    exact L_5 _ j_4 (nI 0) (by omega) (Nat.lt_succ_self _) _ _ _ V (lv_sub hl [0, 1, 2, 3] rfl)
  · have V : gW D T A s [(o, .inr (8, [.int (nI 0), .ref g1, .ref g2, .ref g3, .ref g4, .int (nI tp), .int w6, .int w7, .int w8, .int w9, .int w10, .int w11, .int w12, .int w13, .int w14, .ref g15, .int w16, .ref g17, .int w18, .int w19, .ref g20, .int w21, .ref g22, .ref g23, .ref g24, .int w25, .int w26, .int w27, .ref g28, .ref g29, .int w30, .ref g31, .ref g32, .ref g33])), (g1, .inl (T 0, 282, .inl fa))] H locs := V
    show W p l e _ s m args below meth c H locs _ _ _ (F0 m 10 ls [.int (nI 0)])
    refine lv_if_ne (tgt := 16) hx hb dX8_cold_10 (by decide) (fun c => absurd (show (nI 0) = 0 by decide +kernel) c) (fun _ => ?_)
    refine lv_bipush (v := (-2)) hx hb dX8_cold_13 (by decide +kernel) ?_
    exact g_iret (Qr := (q_m_cold T n o i w0 g1 g2 g3 g4 tp w6 w7 w8 w9 w10 w11 w12 w13 w14 g15 w16 g17 w18 w19 g20 w21 g22 g23 g24 w25 w26 w27 g28 g29 w30 g31 g32 g33 fa)) hC V ⟨(Nat.le_of_ble_eq_true rfl), (Nat.le_of_ble_eq_true rfl)⟩ ⟨(-2), rfl, rfl⟩ dX8_cold_15
