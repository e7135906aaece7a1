def q_m_selfish_f (T : Nat → ClassId) (n : Nat) (o : Nat) (k : Int32) (w0 : Int32) (g1 : Nat) (g2 : Nat) (g3 : Nat) (g4 : Nat) (tp : Nat) (w6 : Int32) (w7 : Int32) (w8 : Int32) (w9 : Int32) (w10 : Int32) (w11 : Int32) (w12 : Int32) (w13 : Int32) (w14 : Int32) (g15 : Nat) (w16 : Int32) (g17 : Nat) (w18 : Int32) (w19 : Int32) (g20 : Nat) (w21 : Int32) (g22 : Nat) (g23 : Nat) (g24 : Nat) (w25 : Int32) (w26 : Int32) (w27 : Int32) (g28 : Nat) (g29 : Nat) (w30 : Int32) (g31 : Nat) (g32 : Nat) (g33 : Nat) (fa : Nat → Int32) : Option Value → va_W → Prop := fun rr ww => (∃ (z : Int32), rr = some (.int z) ∧ ww = [(o, .inr (8, [.int (nI 0), .ref g1, .ref g2, .ref g3, .ref g4, .int (nI tp), .int w6, .int w7, .int w8, .int w9, .int w10, .int w11, .int w12, .int w13, .int w14, .ref g15, .int w16, .ref g17, .int w18, .int w19, .ref g20, .int w21, .ref g22, .ref g23, .ref g24, .int w25, .int w26, .int w27, .ref g28, .ref g29, .int w30, .ref g31, .ref g32, .ref g33])), (g1, .inl (T 0, 282, .inl fa))] ∧ z = slG n fa k (2 ^ n) 0 (nI 0))
set_option maxHeartbeats 4000000 in
set_option maxRecDepth 100000 in
theorem m_selfish_f (l : Launch) (D : va_G) (T : Nat → ClassId) (n : Nat) (o : Nat) (k : Int32) (w0 : Int32) (g1 : Nat) (g2 : Nat) (g3 : Nat) (g4 : Nat) (tp : Nat) (w6 : Int32) (w7 : Int32) (w8 : Int32) (w9 : Int32) (w10 : Int32) (w11 : Int32) (w12 : Int32) (w13 : Int32) (w14 : Int32) (g15 : Nat) (w16 : Int32) (g17 : Nat) (w18 : Int32) (w19 : Int32) (g20 : Nat) (w21 : Int32) (g22 : Nat) (g23 : Nat) (g24 : Nat) (w25 : Int32) (w26 : Int32) (w27 : Int32) (g28 : Nat) (g29 : Nat) (w30 : Int32) (g31 : Nat) (g32 : Nat) (g33 : Nat) (fa : Nat → Int32) (h_a : MI n fa) : Ct l yX8_selfish cX8_selfish 6 (some .int) 3 0 0 D T [.ref o, .int k] [(o, .inr (8, [.int w0, .ref g1, .ref g2, .ref g3, .ref g4, .int (nI tp), .int w6, .int w7, .int w8, .int w9, .int w10, .int w11, .int w12, .int w13, .int w14, .ref g15, .int w16, .ref g17, .int w18, .int w19, .ref g20, .int w21, .ref g22, .ref g23, .ref g24, .int w25, .int w26, .int w27, .ref g28, .ref g29, .int w30, .ref g31, .ref g32, .ref g33])), (g1, .inl (T 0, 282, .inl fa))] (q_m_selfish_f T n o k w0 g1 g2 g3 g4 tp w6 w7 w8 w9 w10 w11 w12 w13 w14 g15 w16 g17 w18 w19 g20 w21 g22 g23 g24 w25 w26 w27 g28 g29 w30 g31 g32 g33 fa) := by
  refine Ct.of (cc := cX8_selfish) (maxL := 6) (ret := (some .int)) (by decide) (Nat.le_of_ble_eq_true rfl) ?_
  intro p e s m args below meth c A ls hC hnm V hl
  obtain ⟨hx, hb, hr, hml, hown, hts, hlocks⟩ := id hC
  generalize hH : s.heap = H at V ⊢
  clear hH
  have hl : lv_has ls 6 [(0, .ref o), (1, .int k)] := hl
  generalize hlo : ([] : List Loc) = locs at V ⊢
  clear hlo
  have ms0 := ms_rf h_a
  have hn10 := h_a.1
  have hpw := pw10 hn10
  refine lv_aload_n hx hb dX8_selfish_0 rfl (lv_at hl 0 rfl) ?_
  refine lv_iconst (v := (nI 0)) hx hb dX8_selfish_1 (by decide +kernel) ?_
  refine g_put hC V (ci := 8) uwX8 tyX8 tyX8_ok nmX8 0 rfl rfl 0 (by decide) w_912 rfl rfl rfl rfl (Nat.le_of_ble_eq_true rfl) (ws' := [(o, .inr (8, [.int (nI 0), .ref g1, .ref g2, .ref g3, .ref g4, .int (nI tp), .int w6, .int w7, .int w8, .int w9, .int w10, .int w11, .int w12, .int w13, .int w14, .ref g15, .int w16, .ref g17, .int w18, .int w19, .ref g20, .int w21, .ref g22, .ref g23, .ref g24, .int w25, .int w26, .int w27, .ref g28, .ref g29, .int w30, .ref g31, .ref g32, .ref g33])), (g1, .inl (T 0, 282, .inl fa))]) rfl dX8_selfish_2 (fun H locs V => ?_)
  refine lv_iconst (v := (nI 0)) hx hb dX8_selfish_5 (by decide +kernel) ?_
  refine lv_istore_n (lv' := [(2, .int (nI 0)), (0, .ref o), (1, .int k)]) hx hb dX8_selfish_6 rfl hl (by decide) rfl (fun ls hl => ?_)
  refine lv_iconst (v := (nI 0)) hx hb dX8_selfish_7 (by decide +kernel) ?_
  refine lv_istore_n (lv' := [(3, .int (nI 0)), (2, .int (nI 0)), (0, .ref o), (1, .int k)]) hx hb dX8_selfish_8 rfl hl (by decide) rfl (fun ls hl => ?_)
  have L_1 : ∀ (fu : Nat) (k9 : Nat) (x2 : Int32), k9 ≤ 2 ^ n → slG n fa k (2 ^ n) 0 (nI 0) = slG n fa k (2 ^ n - k9) k9 x2 → 2 ^ n - k9 < fu → ∀ (H : Heap) (locs : List Loc) (ls : Array Slot), gW D T A s [(o, .inr (8, [.int (nI 0), .ref g1, .ref g2, .ref g3, .ref g4, .int (nI tp), .int w6, .int w7, .int w8, .int w9, .int w10, .int w11, .int w12, .int w13, .int w14, .ref g15, .int w16, .ref g17, .int w18, .int w19, .ref g20, .int w21, .ref g22, .ref g23, .ref g24, .int w25, .int w26, .int w27, .ref g28, .ref g29, .int w30, .ref g31, .ref g32, .ref g33])), (g1, .inl (T 0, 282, .inl fa))] H locs → lv_has ls 6 [(3, .int (nI k9)), (2, .int x2), (0, .ref o), (1, .int k)] → W p l e (rmD 3 0 0) s m args below meth c H locs 0 0 (MQ below (gQ D A (q_m_selfish_f T n o k w0 g1 g2 g3 g4 tp w6 w7 w8 w9 w10 w11 w12 w13 w14 g15 w16 g17 w18 w19 g20 w21 g22 g23 g24 w25 w26 w27 g28 g29 w30 g31 g32 g33 fa)) args s 0 0 A) (F0 m 9 ls []) := by
    intro fu_9
    induction fu_9 with
    | zero => intro k9 x2 hk9 hE hmu; exact absurd hmu (Nat.not_lt_zero _)
    | succ fu_9 ih_9 =>
      intro k9 x2 hk9 hE hmu_9 H locs ls V hl
      refine lv_iload_n hx hb dX8_selfish_9 rfl (lv_at hl 0 rfl) ?_
      refine lv_iconst (v := (nI 1)) hx hb dX8_selfish_10 (by decide +kernel) ?_
      refine lv_aload_n hx hb dX8_selfish_11 rfl (lv_at hl 2 rfl) ?_
      refine g_get hC V (ci := 8) uwX8 0 rfl rfl 1 (by decide) w_913 rfl rfl dX8_selfish_12 ?_
      refine lv_iconst (v := (nI 0)) hx hb dX8_selfish_15 (by decide +kernel) ?_
      refine g_iald hC V 1 rfl (vp_in_nI (by decide) (by decide)) (v := (nI n)) (by rw [nI_clamp (by decide)]; first | rfl | exact h_a.2.1) dX8_selfish_16 ?_
      refine lv_ishl hx hb dX8_selfish_17 ?_
      refine g_vi (y := (nI (2 ^ n))) (shl_pow (by omega)) ?_
      refine lv_icmp_ge (tgt := 102) hx hb dX8_selfish_18 (by decide) (fun c_2 => ?_) (fun c_2 => ?_)
      · skip
        have c_2 := b_le (by omega) (by omega) c_2
        refine lv_iload_n hx hb dX8_selfish_102 rfl (lv_at hl 3 rfl) ?_
        refine lv_iconst (v := (-1)) hx hb dX8_selfish_103 (by decide +kernel) ?_
        refine lv_icmp_ne (tgt := 111) hx hb dX8_selfish_104 (by decide) (fun c_3 => ?_) (fun c_3 => ?_)
        · skip
          refine lv_iconst (v := (-1)) hx hb dX8_selfish_111 (by decide +kernel) ?_
          exact g_iret (Qr := (q_m_selfish_f T n o k w0 g1 g2 g3 g4 tp w6 w7 w8 w9 w10 w11 w12 w13 w14 g15 w16 g17 w18 w19 g20 w21 g22 g23 g24 w25 w26 w27 g28 g29 w30 g31 g32 g33 fa)) hC V ⟨(Nat.le_of_ble_eq_true rfl), (Nat.le_of_ble_eq_true rfl)⟩ ⟨(-1), rfl, rfl, (hE.trans ((sl_e (by omega)).trans (if_neg c_3))).symm⟩ dX8_selfish_112
        · skip
          refine lv_iload_n hx hb dX8_selfish_107 rfl (lv_at hl 1 rfl) ?_
          refine lv_goto (tgt := 112) hx hb dX8_selfish_108 (by decide) ?_
          exact g_iret (Qr := (q_m_selfish_f T n o k w0 g1 g2 g3 g4 tp w6 w7 w8 w9 w10 w11 w12 w13 w14 g15 w16 g17 w18 w19 g20 w21 g22 g23 g24 w25 w26 w27 g28 g29 w30 g31 g32 g33 fa)) hC V ⟨(Nat.le_of_ble_eq_true rfl), (Nat.le_of_ble_eq_true rfl)⟩ ⟨x2, rfl, rfl, (hE.trans ((sl_e (by omega)).trans (if_pos c_3))).symm⟩ dX8_selfish_112
      · skip
        have c_2 := b_nle (by omega) (by omega) c_2
        refine lv_iconst (v := (nI 1)) hx hb dX8_selfish_21 (by decide +kernel) ?_
        refine lv_istore (lv' := [(4, .int (nI 1)), (3, .int (nI k9)), (2, .int x2), (0, .ref o), (1, .int k)]) hx hb dX8_selfish_22 hl (by decide) rfl (fun ls hl => ?_)
        refine lv_iconst (v := (nI 0)) hx hb dX8_selfish_24 (by decide +kernel) ?_
        refine lv_istore (lv' := [(5, .int (nI 0)), (4, .int (nI 1)), (3, .int (nI k9)), (2, .int x2), (0, .ref o), (1, .int k)]) hx hb dX8_selfish_25 hl (by decide) rfl (fun ls hl => ?_)
        have L_4 : ∀ (fu : Nat) (k27 : Nat) (b4 : Int32), k27 ≤ n → SbS n fa (nI k9) k27 b4 → n - k27 < fu → ∀ (H : Heap) (locs : List Loc) (ls : Array Slot), gW D T A s [(o, .inr (8, [.int (nI 0), .ref g1, .ref g2, .ref g3, .ref g4, .int (nI tp), .int w6, .int w7, .int w8, .int w9, .int w10, .int w11, .int w12, .int w13, .int w14, .ref g15, .int w16, .ref g17, .int w18, .int w19, .ref g20, .int w21, .ref g22, .ref g23, .ref g24, .int w25, .int w26, .int w27, .ref g28, .ref g29, .int w30, .ref g31, .ref g32, .ref g33])), (g1, .inl (T 0, 282, .inl fa))] H locs → lv_has ls 6 [(5, .int (nI k27)), (4, .int b4), (3, .int (nI k9)), (2, .int x2), (0, .ref o), (1, .int k)] → W p l e (rmD 3 0 0) s m args below meth c H locs 0 0 (MQ below (gQ D A (q_m_selfish_f T n o k w0 g1 g2 g3 g4 tp w6 w7 w8 w9 w10 w11 w12 w13 w14 g15 w16 g17 w18 w19 g20 w21 g22 g23 g24 w25 w26 w27 g28 g29 w30 g31 g32 g33 fa)) args s 0 0 A) (F0 m 27 ls []) := by
          intro fu_27
          induction fu_27 with
          | zero => intro k27 b4 hk27 hb4 hmu; exact absurd hmu (Nat.not_lt_zero _)
          | succ fu_27 ih_27 =>
            intro k27 b4 hk27 hb4 hmu_27 H locs ls V hl
            refine lv_iload hx hb dX8_selfish_27 (lv_at hl 0 rfl) ?_
            refine lv_aload_n hx hb dX8_selfish_29 rfl (lv_at hl 4 rfl) ?_
            refine g_get hC V (ci := 8) uwX8 0 rfl rfl 1 (by decide) w_913 rfl rfl dX8_selfish_30 ?_
            refine lv_iconst (v := (nI 0)) hx hb dX8_selfish_33 (by decide +kernel) ?_
            refine g_iald hC V 1 rfl (vp_in_nI (by decide) (by decide)) (v := (nI n)) (by rw [nI_clamp (by decide)]; first | rfl | exact h_a.2.1) dX8_selfish_34 ?_
            refine lv_icmp_ge (tgt := 78) hx hb dX8_selfish_35 (by decide) (fun c_5 => ?_) (fun c_5 => ?_)
            · skip
              have c_5 := b_le (by omega) (by omega) c_5
              refine lv_iload hx hb dX8_selfish_78 (lv_at hl 1 rfl) ?_
              refine lv_if_ne (tgt := 86) hx hb dX8_selfish_80 (by decide) (fun c_6 => ?_) (fun c_6 => ?_)
              · skip
                refine lv_iload_n hx hb dX8_selfish_86 rfl (lv_at hl 3 rfl) ?_
                refine lv_iload_n hx hb dX8_selfish_87 rfl (lv_at hl 5 rfl) ?_
                refine lv_icmp_ne (tgt := 93) hx hb dX8_selfish_88 (by decide) (fun c_7 => ?_) (fun c_7 => ?_)
                · skip
                  refine lv_iinc (v := (x2 + 1)) (lv' := [(2, .int (x2 + 1)), (5, .int (nI k27)), (4, .int b4), (3, .int (nI k9)), (0, .ref o), (1, .int k)]) hx hb dX8_selfish_93 hl (k := 3) rfl rfl (by decide) rfl (fun ls hl => ?_)
                  refine lv_iinc (v := (nI (k9 + 1))) (lv' := [(3, .int (nI (k9 + 1))), (2, .int (x2 + 1)), (5, .int (nI k27)), (4, .int b4), (0, .ref o), (1, .int k)]) hx hb dX8_selfish_96 hl (k := 3) rfl (nI_1 _) (by decide) rfl (fun ls hl => ?_)
                  refine lv_goto (tgt := 9) hx hb dX8_selfish_99 (by decide) ?_
                  exact ih_9 (k9 + 1) (x2 + 1) (by omega) (hE.trans (sl_y (by omega) (sb_e hb4 c_6 (by omega)) c_7)) (by omega) _ _ _ V (lv_sub hl [0, 1, 4, 5] rfl)
                · skip
                  refine lv_iload_n hx hb dX8_selfish_91 rfl (lv_at hl 2 rfl) ?_
                  exact g_iret (Qr := (q_m_selfish_f T n o k w0 g1 g2 g3 g4 tp w6 w7 w8 w9 w10 w11 w12 w13 w14 g15 w16 g17 w18 w19 g20 w21 g22 g23 g24 w25 w26 w27 g28 g29 w30 g31 g32 g33 fa)) hC V ⟨(Nat.le_of_ble_eq_true rfl), (Nat.le_of_ble_eq_true rfl)⟩ ⟨(nI k9), rfl, rfl, (hE.trans (sl_f (by omega) (sb_e hb4 c_6 (by omega)) c_7)).symm⟩ dX8_selfish_92
              · skip
                refine lv_goto (tgt := 96) hx hb dX8_selfish_83 (by decide) ?_
                refine lv_iinc (v := (nI (k9 + 1))) (lv' := [(3, .int (nI (k9 + 1))), (5, .int (nI k27)), (4, .int b4), (2, .int x2), (0, .ref o), (1, .int k)]) hx hb dX8_selfish_96 hl (k := 2) rfl (nI_1 _) (by decide) rfl (fun ls hl => ?_)
                refine lv_goto (tgt := 9) hx hb dX8_selfish_99 (by decide) ?_
                exact ih_9 (k9 + 1) x2 (by omega) (hE.trans (sl_n (by omega) (hb4.1 c_6))) (by omega) _ _ _ V (lv_sub hl [0, 3, 4, 5] rfl)
            · skip
              have c_5 := b_nle (by omega) (by omega) c_5
              refine lv_iload hx hb dX8_selfish_38 (lv_at hl 1 rfl) ?_
              refine lv_if_eq (tgt := 78) hx hb dX8_selfish_40 (by decide) (fun c_8 => ?_) (fun c_8 => ?_)
              · skip
                refine lv_iload hx hb dX8_selfish_78 (lv_at hl 1 rfl) ?_
                refine lv_if_ne (tgt := 86) hx hb dX8_selfish_80 (by decide) (fun c_9 => ?_) (fun c_9 => ?_)
                · skip
                  refine lv_iload_n hx hb dX8_selfish_86 rfl (lv_at hl 3 rfl) ?_
                  refine lv_iload_n hx hb dX8_selfish_87 rfl (lv_at hl 5 rfl) ?_
                  refine lv_icmp_ne (tgt := 93) hx hb dX8_selfish_88 (by decide) (fun c_10 => ?_) (fun c_10 => ?_)
                  · skip
                    refine lv_iinc (v := (x2 + 1)) (lv' := [(2, .int (x2 + 1)), (5, .int (nI k27)), (4, .int b4), (3, .int (nI k9)), (0, .ref o), (1, .int k)]) hx hb dX8_selfish_93 hl (k := 3) rfl rfl (by decide) rfl (fun ls hl => ?_)
                    refine lv_iinc (v := (nI (k9 + 1))) (lv' := [(3, .int (nI (k9 + 1))), (2, .int (x2 + 1)), (5, .int (nI k27)), (4, .int b4), (0, .ref o), (1, .int k)]) hx hb dX8_selfish_96 hl (k := 3) rfl (nI_1 _) (by decide) rfl (fun ls hl => ?_)
                    refine lv_goto (tgt := 9) hx hb dX8_selfish_99 (by decide) ?_
                    exact ih_9 (k9 + 1) (x2 + 1) (by omega) (hE.trans (sl_y (by omega) (absurd c_8 c_9) c_10)) (by omega) _ _ _ V (lv_sub hl [0, 1, 4, 5] rfl)
                  · skip
                    refine lv_iload_n hx hb dX8_selfish_91 rfl (lv_at hl 2 rfl) ?_
                    exact g_iret (Qr := (q_m_selfish_f T n o k w0 g1 g2 g3 g4 tp w6 w7 w8 w9 w10 w11 w12 w13 w14 g15 w16 g17 w18 w19 g20 w21 g22 g23 g24 w25 w26 w27 g28 g29 w30 g31 g32 g33 fa)) hC V ⟨(Nat.le_of_ble_eq_true rfl), (Nat.le_of_ble_eq_true rfl)⟩ ⟨(nI k9), rfl, rfl, (hE.trans (sl_f (by omega) (absurd c_8 c_9) c_10)).symm⟩ dX8_selfish_92
                · skip
                  refine lv_goto (tgt := 96) hx hb dX8_selfish_83 (by decide) ?_
                  refine lv_iinc (v := (nI (k9 + 1))) (lv' := [(3, .int (nI (k9 + 1))), (5, .int (nI k27)), (4, .int b4), (2, .int x2), (0, .ref o), (1, .int k)]) hx hb dX8_selfish_96 hl (k := 2) rfl (nI_1 _) (by decide) rfl (fun ls hl => ?_)
                  refine lv_goto (tgt := 9) hx hb dX8_selfish_99 (by decide) ?_
                  exact ih_9 (k9 + 1) x2 (by omega) (hE.trans (sl_n (by omega) (hb4.1 c_9))) (by omega) _ _ _ V (lv_sub hl [0, 3, 4, 5] rfl)
              · skip
                refine lv_aload_n hx hb dX8_selfish_43 rfl (lv_at hl 4 rfl) ?_
                refine lv_iload hx hb dX8_selfish_44 (lv_at hl 0 rfl) ?_
                refine lv_iload_n hx hb dX8_selfish_46 rfl (lv_at hl 2 rfl) ?_
                refine lv_iconst (v := (nI 1)) hx hb dX8_selfish_47 (by decide +kernel) ?_
                refine lv_iload hx hb dX8_selfish_48 (lv_at hl 0 rfl) ?_
                refine lv_ishl hx hb dX8_selfish_50 ?_
                refine lv_ixor hx hb dX8_selfish_51 ?_
                refine g_callV (wr := []) (nA := 2) hC V hl.1 (m_payOf_f l D T n o k27 ((nI k9) ^^^ ((nI 1) <<< ((nI k27) &&& 31))) (nI 0) g1 g2 g3 g4 tp w6 w7 w8 w9 w10 w11 w12 w13 w14 g15 w16 g17 w18 w19 g20 w21 g22 g23 g24 w25 w26 w27 g28 g29 w30 g31 g32 g33 fa h_a (by first | assumption | omega)) w_1269 w_1271 w_s68 w_9 w_1272 (by decide +kernel) rfl ⟨(Nat.le_of_ble_eq_true rfl), (Nat.le_of_ble_eq_true rfl)⟩ 0 (ci := 8) rfl rfl [0, 1] [] rfl rfl rfl rfl (by decide) (Nat.le_of_ble_eq_true rfl) dX8_selfish_52 ⟨(Nat.le_of_ble_eq_true rfl), (Nat.le_of_ble_eq_true rfl)⟩ rfl (fun r w1 H locs hQ V => ?_)
                obtain ⟨z_11, rfl, rfl, f_12⟩ := hQ
                have V : gW D T A s [(o, .inr (8, [.int (nI 0), .ref g1, .ref g2, .ref g3, .ref g4, .int (nI tp), .int w6, .int w7, .int w8, .int w9, .int w10, .int w11, .int w12, .int w13, .int w14, .ref g15, .int w16, .ref g17, .int w18, .int w19, .ref g20, .int w21, .ref g22, .ref g23, .ref g24, .int w25, .int w26, .int w27, .ref g28, .ref g29, .int w30, .ref g31, .ref g32, .ref g33])), (g1, .inl (T 0, 282, .inl fa))] H locs := V
                show W p l e _ s m args below meth c H locs _ _ _ (F0 m 55 ls [.int z_11])
                refine lv_aload_n hx hb dX8_selfish_55 rfl (lv_at hl 4 rfl) ?_
                refine lv_iload hx hb dX8_selfish_56 (lv_at hl 0 rfl) ?_
                refine lv_iload_n hx hb dX8_selfish_58 rfl (lv_at hl 2 rfl) ?_
                refine g_callV (wr := []) (nA := 2) hC V hl.1 (m_payOf_f l D T n o k27 (nI k9) (nI 0) g1 g2 g3 g4 tp w6 w7 w8 w9 w10 w11 w12 w13 w14 g15 w16 g17 w18 w19 g20 w21 g22 g23 g24 w25 w26 w27 g28 g29 w30 g31 g32 g33 fa h_a (by first | assumption | omega)) w_1269 w_1271 w_s68 w_9 w_1272 (by decide +kernel) rfl ⟨(Nat.le_of_ble_eq_true rfl), (Nat.le_of_ble_eq_true rfl)⟩ 0 (ci := 8) rfl rfl [0, 1] [] rfl rfl rfl rfl (by decide) (Nat.le_of_ble_eq_true rfl) dX8_selfish_59 ⟨(Nat.le_of_ble_eq_true rfl), (Nat.le_of_ble_eq_true rfl)⟩ rfl (fun r w1 H locs hQ V => ?_)
                obtain ⟨z_13, rfl, rfl, f_14⟩ := hQ
                have V : gW D T A s [(o, .inr (8, [.int (nI 0), .ref g1, .ref g2, .ref g3, .ref g4, .int (nI tp), .int w6, .int w7, .int w8, .int w9, .int w10, .int w11, .int w12, .int w13, .int w14, .ref g15, .int w16, .ref g17, .int w18, .int w19, .ref g20, .int w21, .ref g22, .ref g23, .ref g24, .int w25, .int w26, .int w27, .ref g28, .ref g29, .int w30, .ref g31, .ref g32, .ref g33])), (g1, .inl (T 0, 282, .inl fa))] H locs := V
                show W p l e _ s m args below meth c H locs _ _ _ (F0 m 62 ls [.int z_13, .int z_11])
                refine lv_icmp_gt (tgt := 69) hx hb dX8_selfish_62 (by decide) (fun c_15 => ?_) (fun c_15 => ?_)
                · skip
                  refine lv_iconst (v := (nI 0)) hx hb dX8_selfish_69 (by decide +kernel) ?_
                  refine lv_istore (lv' := [(4, .int (nI 0)), (5, .int (nI k27)), (3, .int (nI k9)), (2, .int x2), (0, .ref o), (1, .int k)]) hx hb dX8_selfish_70 hl (by decide) rfl (fun ls hl => ?_)
                  refine lv_iinc (v := (nI (k27 + 1))) (lv' := [(5, .int (nI (k27 + 1))), (4, .int (nI 0)), (3, .int (nI k9)), (2, .int x2), (0, .ref o), (1, .int k)]) hx hb dX8_selfish_72 hl (k := 1) rfl (nI_1 _) (by decide) rfl (fun ls hl => ?_)
                  refine lv_goto (tgt := 27) hx hb dX8_selfish_75 (by decide) ?_
                  exact ih_27 (k27 + 1) (nI 0) (by omega) (sb_0 (k := k27) (by omega) (by rw [← f_12, ← f_14]; exact c_15)) (by omega) _ _ _ V (lv_sub hl [0, 1, 2, 3, 4, 5] rfl)
                · skip
                  refine lv_iconst (v := (nI 1)) hx hb dX8_selfish_65 (by decide +kernel) ?_
                  refine lv_goto (tgt := 70) hx hb dX8_selfish_66 (by decide) ?_
                  refine lv_istore (lv' := [(4, .int (nI 1)), (5, .int (nI k27)), (3, .int (nI k9)), (2, .int x2), (0, .ref o), (1, .int k)]) hx hb dX8_selfish_70 hl (by decide) rfl (fun ls hl => ?_)
                  refine lv_iinc (v := (nI (k27 + 1))) (lv' := [(5, .int (nI (k27 + 1))), (4, .int (nI 1)), (3, .int (nI k9)), (2, .int x2), (0, .ref o), (1, .int k)]) hx hb dX8_selfish_72 hl (k := 1) rfl (nI_1 _) (by decide) rfl (fun ls hl => ?_)
                  refine lv_goto (tgt := 27) hx hb dX8_selfish_75 (by decide) ?_
                  exact ih_27 (k27 + 1) (nI 1) (by omega) (sb_s hb4 c_8 (by rw [← f_12, ← f_14]; exact c_15)) (by omega) _ _ _ V (lv_sub hl [0, 1, 2, 3, 4, 5] rfl)
        exact L_4 _ 0 (nI 1) (by omega) sb_i (Nat.lt_succ_self _) _ _ _ V (lv_sub hl [0, 1, 2, 3, 4, 5] rfl)
  exact L_1 _ 0 (nI 0) (by omega) rfl (Nat.lt_succ_self _) _ _ _ V (lv_sub hl [0, 1, 2, 3] rfl)
