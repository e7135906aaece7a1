def q_m_ringOf_f (T : Nat → ClassId) (n : Nat) (o : Nat) (i : Nat) (w0 : Int32) (g1 : Nat) (g2 : Nat) (g3 : Nat) (g4 : Nat) (tp : Nat) (w6 : Int32) (w7 : Int32) (w8 : Int32) (w9 : Int32) (w10 : Int32) (w11 : Int32) (w12 : Int32) (w13 : Int32) (w14 : Int32) (g15 : Nat) (w16 : Int32) (g17 : Nat) (w18 : Int32) (w19 : Int32) (g20 : Nat) (w21 : Int32) (g22 : Nat) (g23 : Nat) (g24 : Nat) (w25 : Int32) (w26 : Int32) (w27 : Int32) (g28 : Nat) (g29 : Nat) (w30 : Int32) (g31 : Nat) (g32 : Nat) (g33 : Nat) (fa : Nat → Int32) : Option Value → va_W → Prop := fun rr ww => (∃ (r : Nat), rr = some (.int (nI r)) ∧ ww = [(o, .inr (8, [.int w0, .ref g1, .ref g2, .ref g3, .ref g4, .int (nI tp), .int w6, .int w7, .int w8, .int w9, .int w10, .int w11, .int w12, .int w13, .int w14, .ref g15, .int w16, .ref g17, .int w18, .int w19, .ref g20, .int w21, .ref g22, .ref g23, .ref g24, .int w25, .int w26, .int w27, .ref g28, .ref g29, .int w30, .ref g31, .ref g32, .ref g33])), (g1, .inl (T 0, 282, .inl fa))] ∧ r ≤ 10 ∧ r = pgG fa (ledF fa i n) (n - 1) 1 ∧ 1 ≤ r ∧ ledF fa (ledF fa i 10) r = ledF fa i 10)
set_option maxHeartbeats 4000000 in
set_option maxRecDepth 100000 in
theorem m_ringOf_f (l : Launch) (D : va_G) (T : Nat → ClassId) (n : Nat) (o : Nat) (i : Nat) (w0 : Int32) (g1 : Nat) (g2 : Nat) (g3 : Nat) (g4 : Nat) (tp : Nat) (w6 : Int32) (w7 : Int32) (w8 : Int32) (w9 : Int32) (w10 : Int32) (w11 : Int32) (w12 : Int32) (w13 : Int32) (w14 : Int32) (g15 : Nat) (w16 : Int32) (g17 : Nat) (w18 : Int32) (w19 : Int32) (g20 : Nat) (w21 : Int32) (g22 : Nat) (g23 : Nat) (g24 : Nat) (w25 : Int32) (w26 : Int32) (w27 : Int32) (g28 : Nat) (g29 : Nat) (w30 : Int32) (g31 : Nat) (g32 : Nat) (g33 : Nat) (fa : Nat → Int32) (h_a : MI n fa) (h_i : i < n) : Ct l yX8_ringOf cX8_ringOf 4 (some .int) 1 0 0 D T [.ref o, .int (nI i)] [(o, .inr (8, [.int w0, .ref g1, .ref g2, .ref g3, .ref g4, .int (nI tp), .int w6, .int w7, .int w8, .int w9, .int w10, .int w11, .int w12, .int w13, .int w14, .ref g15, .int w16, .ref g17, .int w18, .int w19, .ref g20, .int w21, .ref g22, .ref g23, .ref g24, .int w25, .int w26, .int w27, .ref g28, .ref g29, .int w30, .ref g31, .ref g32, .ref g33])), (g1, .inl (T 0, 282, .inl fa))] (q_m_ringOf_f T n o i w0 g1 g2 g3 g4 tp w6 w7 w8 w9 w10 w11 w12 w13 w14 g15 w16 g17 w18 w19 g20 w21 g22 g23 g24 w25 w26 w27 g28 g29 w30 g31 g32 g33 fa) := by
  refine Ct.of (cc := cX8_ringOf) (maxL := 4) (ret := (some .int)) (by decide) (Nat.le_of_ble_eq_true rfl) ?_
  intro p e s m args below meth c A ls hC hnm V hl
  obtain ⟨hx, hb, hr, hml, hown, hts, hlocks⟩ := id hC
  generalize hH : s.heap = H at V ⊢
  clear hH
  have hl : lv_has ls 4 [(0, .ref o), (1, .int (nI i))] := hl
  generalize hlo : ([] : List Loc) = locs at V ⊢
  clear hlo
  have ms0 := ms_rf h_a
  have hn10 := h_a.1
  obtain ⟨mq, hm1, hm2, hm3⟩ := led_cyc h_a h_i
  refine lv_aload_n hx hb dX8_ringOf_0 rfl (lv_at hl 0 rfl) ?_
  refine lv_iload_n hx hb dX8_ringOf_1 rfl (lv_at hl 1 rfl) ?_
  refine lv_bipush (v := (nI 10)) hx hb dX8_ringOf_2 (by decide +kernel) ?_
  refine g_callV (wr := []) (nA := 2) hC V hl.1 (m_led l D T n o i 10 w0 g1 g2 g3 g4 tp w6 w7 w8 w9 w10 w11 w12 w13 w14 g15 w16 g17 w18 w19 g20 w21 g22 g23 g24 w25 w26 w27 g28 g29 w30 g31 g32 g33 fa h_a (by first | assumption | omega) (by first | assumption | omega)) w_1204 w_1206 w_s62 w_9 w_1207 (by decide +kernel) rfl ⟨(Nat.le_of_ble_eq_true rfl), (Nat.le_of_ble_eq_true rfl)⟩ 0 (ci := 8) rfl rfl [0, 1] [] rfl rfl rfl rfl (by decide) (Nat.le_of_ble_eq_true rfl) dX8_ringOf_4 ⟨(Nat.le_of_ble_eq_true rfl), (Nat.le_of_ble_eq_true rfl)⟩ rfl (fun r w1 H locs hQ V => ?_)
  obtain ⟨F, rfl, rfl, f_1⟩ := hQ
  have V : gW D T A s [(o, .inr (8, [.int w0, .ref g1, .ref g2, .ref g3, .ref g4, .int (nI tp), .int w6, .int w7, .int w8, .int w9, .int w10, .int w11, .int w12, .int w13, .int w14, .ref g15, .int w16, .ref g17, .int w18, .int w19, .ref g20, .int w21, .ref g22, .ref g23, .ref g24, .int w25, .int w26, .int w27, .ref g28, .ref g29, .int w30, .ref g31, .ref g32, .ref g33])), (g1, .inl (T 0, 282, .inl fa))] H locs := V
  show W p l e _ s m args below meth c H locs _ _ _ (F0 m 7 ls [.int (nI F)])
  have hF := f_1
  refine lv_istore_n (lv' := [(2, .int (nI F)), (0, .ref o), (1, .int (nI i))]) hx hb dX8_ringOf_7 rfl hl (by decide) rfl (fun ls hl => ?_)
  refine lv_iconst (v := (nI 1)) hx hb dX8_ringOf_8 (by decide +kernel) ?_
  refine lv_istore_n (lv' := [(3, .int (nI 1)), (2, .int (nI F)), (0, .ref o), (1, .int (nI i))]) hx hb dX8_ringOf_9 rfl hl (by decide) rfl (fun ls hl => ?_)
  have L_2 : ∀ (fu : Nat) (k3 : Nat), k3 ≤ mq → 1 ≤ k3 → (∀ m, 1 ≤ m → m < k3 → ledF fa F m ≠ F) → 11 - k3 < fu → ∀ (H : Heap) (locs : List Loc) (ls : Array Slot), gW D T A s [(o, .inr (8, [.int w0, .ref g1, .ref g2, .ref g3, .ref g4, .int (nI tp), .int w6, .int w7, .int w8, .int w9, .int w10, .int w11, .int w12, .int w13, .int w14, .ref g15, .int w16, .ref g17, .int w18, .int w19, .ref g20, .int w21, .ref g22, .ref g23, .ref g24, .int w25, .int w26, .int w27, .ref g28, .ref g29, .int w30, .ref g31, .ref g32, .ref g33])), (g1, .inl (T 0, 282, .inl fa))] H locs → lv_has ls 4 [(3, .int (nI k3)), (2, .int (nI F)), (0, .ref o), (1, .int (nI i))] → W p l e (rmD 1 0 0) s m args below meth c H locs 0 0 (MQ below (gQ D A (q_m_ringOf_f T n o i w0 g1 g2 g3 g4 tp w6 w7 w8 w9 w10 w11 w12 w13 w14 g15 w16 g17 w18 w19 g20 w21 g22 g23 g24 w25 w26 w27 g28 g29 w30 g31 g32 g33 fa)) args s 0 0 A) (F0 m 10 ls []) := by
    intro fu_10
    induction fu_10 with
    | zero => intro k3 hk3 hk1 hnm hmu; exact absurd hmu (Nat.not_lt_zero _)
    | succ fu_10 ih_10 =>
      intro k3 hk3 hk1 hnm hmu_10 H locs ls V hl
      refine lv_aload_n hx hb dX8_ringOf_10 rfl (lv_at hl 2 rfl) ?_
      refine lv_iload_n hx hb dX8_ringOf_11 rfl (lv_at hl 1 rfl) ?_
      refine lv_iload_n hx hb dX8_ringOf_12 rfl (lv_at hl 0 rfl) ?_
      refine g_callV (wr := []) (nA := 2) hC V hl.1 (m_led l D T n o F k3 w0 g1 g2 g3 g4 tp w6 w7 w8 w9 w10 w11 w12 w13 w14 g15 w16 g17 w18 w19 g20 w21 g22 g23 g24 w25 w26 w27 g28 g29 w30 g31 g32 g33 fa h_a (by first | assumption | omega) (by first | assumption | omega)) w_1204 w_1206 w_s62 w_9 w_1207 (by decide +kernel) rfl ⟨(Nat.le_of_ble_eq_true rfl), (Nat.le_of_ble_eq_true rfl)⟩ 0 (ci := 8) rfl rfl [0, 1] [] rfl rfl rfl rfl (by decide) (Nat.le_of_ble_eq_true rfl) dX8_ringOf_13 ⟨(Nat.le_of_ble_eq_true rfl), (Nat.le_of_ble_eq_true rfl)⟩ rfl (fun r w1 H locs hQ V => ?_)
      obtain ⟨r_3, rfl, rfl, f_4⟩ := hQ
      have V : gW D T A s [(o, .inr (8, [.int w0, .ref g1, .ref g2, .ref g3, .ref g4, .int (nI tp), .int w6, .int w7, .int w8, .int w9, .int w10, .int w11, .int w12, .int w13, .int w14, .ref g15, .int w16, .ref g17, .int w18, .int w19, .ref g20, .int w21, .ref g22, .ref g23, .ref g24, .int w25, .int w26, .int w27, .ref g28, .ref g29, .int w30, .ref g31, .ref g32, .ref g33])), (g1, .inl (T 0, 282, .inl fa))] H locs := V
      show W p l e _ s m args below meth c H locs _ _ _ (F0 m 16 ls [.int (nI r_3)])
      have hr9 := f_4
      refine lv_iload_n hx hb dX8_ringOf_16 rfl (lv_at hl 1 rfl) ?_
      refine lv_icmp_eq (tgt := 26) hx hb dX8_ringOf_17 (by decide) (fun c_5 => ?_) (fun c_5 => ?_)
      · skip
        have c_5 := b_eq (by omega) (by omega) c_5
        have heq9 := c_5
        refine lv_iload_n hx hb dX8_ringOf_26 rfl (lv_at hl 0 rfl) ?_
        exact g_iret (Qr := (q_m_ringOf_f T n o i w0 g1 g2 g3 g4 tp w6 w7 w8 w9 w10 w11 w12 w13 w14 g15 w16 g17 w18 w19 g20 w21 g22 g23 g24 w25 w26 w27 g28 g29 w30 g31 g32 g33 fa)) hC V ⟨(Nat.le_of_ble_eq_true rfl), (Nat.le_of_ble_eq_true rfl)⟩ ⟨k3, rfl, rfl, (by omega), (rg_eq h_a h_i hk1 (by rw [← hF.1]; exact hr9.1.symm.trans heq9) (fun m a b => by rw [← hF.1]; exact hnm m a b)), hk1, (by rw [← hF.1]; exact hr9.1.symm.trans heq9)⟩ dX8_ringOf_27
      · skip
        have c_5 := b_ne (by omega) (by omega) c_5
        have hgo := led_go hF.1 hm3 hr9.1 c_5 hk3
        have hne9 := c_5
        refine lv_iinc (v := (nI (k3 + 1))) (lv' := [(3, .int (nI (k3 + 1))), (2, .int (nI F)), (0, .ref o), (1, .int (nI i))]) hx hb dX8_ringOf_20 hl (k := 0) rfl (nI_1 _) (by decide) rfl (fun ls hl => ?_)
        refine lv_goto (tgt := 10) hx hb dX8_ringOf_23 (by decide) ?_
        exact ih_10 (k3 + 1) hgo (by omega) (fun m a b e => if h : m = k3 then hne9 (hr9.1.trans (by rw [← h]; exact e)) else hnm m a (by omega) e) (by omega) _ _ _ V (lv_sub hl [0, 1, 2, 3] rfl)
  exact L_2 _ 1 (by omega) (by omega) (fun m a b => absurd b (by omega)) (Nat.lt_succ_self _) _ _ _ V (lv_sub hl [0, 1, 2, 3] rfl)

def q_m_ring_f (T : Nat → ClassId) (n : Nat) (o : Nat) (i : Int32) (w0 : Int32) (g1 : Nat) (g2 : Nat) (g3 : Nat) (g4 : Nat) (tp : Nat) (w6 : Int32) (w7 : Int32) (w8 : Int32) (w9 : Int32) (w10 : Int32) (w11 : Int32) (w12 : Int32) (w13 : Int32) (w14 : Int32) (g15 : Nat) (w16 : Int32) (g17 : Nat) (w18 : Int32) (w19 : Int32) (g20 : Nat) (w21 : Int32) (g22 : Nat) (g23 : Nat) (g24 : Nat) (w25 : Int32) (w26 : Int32) (w27 : Int32) (g28 : Nat) (g29 : Nat) (w30 : Int32) (g31 : Nat) (g32 : Nat) (g33 : Nat) (fa : Nat → Int32) : Option Value → va_W → Prop := fun rr ww => (∃ (z : Int32), rr = some (.int z) ∧ ww = [(o, .inr (8, [.int (nI 0), .ref g1, .ref g2, .ref g3, .ref g4, .int (nI tp), .int w6, .int w7, .int w8, .int w9, .int w10, .int w11, .int w12, .int w13, .int w14, .ref g15, .int w16, .ref g17, .int w18, .int w19, .ref g20, .int w21, .ref g22, .ref g23, .ref g24, .int w25, .int w26, .int w27, .ref g28, .ref g29, .int w30, .ref g31, .ref g32, .ref g33])), (g1, .inl (T 0, 282, .inl fa))] ∧ z = rgA n fa i)
set_option maxHeartbeats 4000000 in
set_option maxRecDepth 100000 in
theorem m_ring_f (l : Launch) (D : va_G) (T : Nat → ClassId) (n : Nat) (o : Nat) (i : Int32) (w0 : Int32) (g1 : Nat) (g2 : Nat) (g3 : Nat) (g4 : Nat) (tp : Nat) (w6 : Int32) (w7 : Int32) (w8 : Int32) (w9 : Int32) (w10 : Int32) (w11 : Int32) (w12 : Int32) (w13 : Int32) (w14 : Int32) (g15 : Nat) (w16 : Int32) (g17 : Nat) (w18 : Int32) (w19 : Int32) (g20 : Nat) (w21 : Int32) (g22 : Nat) (g23 : Nat) (g24 : Nat) (w25 : Int32) (w26 : Int32) (w27 : Int32) (g28 : Nat) (g29 : Nat) (w30 : Int32) (g31 : Nat) (g32 : Nat) (g33 : Nat) (fa : Nat → Int32) (h_a : MI n fa) : Ct l yX8_ring cX8_ring 2 (some .int) 2 0 0 D T [.ref o, .int i] [(o, .inr (8, [.int w0, .ref g1, .ref g2, .ref g3, .ref g4, .int (nI tp), .int w6, .int w7, .int w8, .int w9, .int w10, .int w11, .int w12, .int w13, .int w14, .ref g15, .int w16, .ref g17, .int w18, .int w19, .ref g20, .int w21, .ref g22, .ref g23, .ref g24, .int w25, .int w26, .int w27, .ref g28, .ref g29, .int w30, .ref g31, .ref g32, .ref g33])), (g1, .inl (T 0, 282, .inl fa))] (q_m_ring_f T n o i w0 g1 g2 g3 g4 tp w6 w7 w8 w9 w10 w11 w12 w13 w14 g15 w16 g17 w18 w19 g20 w21 g22 g23 g24 w25 w26 w27 g28 g29 w30 g31 g32 g33 fa) := by
  refine Ct.of (cc := cX8_ring) (maxL := 2) (ret := (some .int)) (by decide) (Nat.le_of_ble_eq_true rfl) ?_
  intro p e s m args below meth c A ls hC hnm V hl
  obtain ⟨hx, hb, hr, hml, hown, hts, hlocks⟩ := id hC
  generalize hH : s.heap = H at V ⊢
  clear hH
  have hl : lv_has ls 2 [(0, .ref o), (1, .int i)] := hl
  generalize hlo : ([] : List Loc) = locs at V ⊢
  clear hlo
  have ms0 := ms_rf h_a
  have hn10 := h_a.1
  refine lv_aload_n hx hb dX8_ring_0 rfl (lv_at hl 0 rfl) ?_
  refine lv_iconst (v := (nI 0)) hx hb dX8_ring_1 (by decide +kernel) ?_
  refine g_put hC V (ci := 8) uwX8 tyX8 tyX8_ok nmX8 0 rfl rfl 0 (by decide) w_912 rfl rfl rfl rfl (Nat.le_of_ble_eq_true rfl) (ws' := [(o, .inr (8, [.int (nI 0), .ref g1, .ref g2, .ref g3, .ref g4, .int (nI tp), .int w6, .int w7, .int w8, .int w9, .int w10, .int w11, .int w12, .int w13, .int w14, .ref g15, .int w16, .ref g17, .int w18, .int w19, .ref g20, .int w21, .ref g22, .ref g23, .ref g24, .int w25, .int w26, .int w27, .ref g28, .ref g29, .int w30, .ref g31, .ref g32, .ref g33])), (g1, .inl (T 0, 282, .inl fa))]) rfl dX8_ring_2 (fun H locs V => ?_)
  refine lv_aload_n hx hb dX8_ring_5 rfl (lv_at hl 0 rfl) ?_
  refine lv_iload_n hx hb dX8_ring_6 rfl (lv_at hl 1 rfl) ?_
  refine g_callV (wr := []) (nA := 1) hC V hl.1 (m_isSmith_f l D T n o i (nI 0) g1 g2 g3 g4 tp w6 w7 w8 w9 w10 w11 w12 w13 w14 g15 w16 g17 w18 w19 g20 w21 g22 g23 g24 w25 w26 w27 g28 g29 w30 g31 g32 g33 fa h_a) w_1083 w_1085 w_s46 w_9 w_1086 (by decide +kernel) rfl ⟨(Nat.le_of_ble_eq_true rfl), (Nat.le_of_ble_eq_true rfl)⟩ 0 (ci := 8) rfl rfl [0, 1] [] rfl rfl rfl rfl (by decide) (Nat.le_of_ble_eq_true rfl) dX8_ring_7 ⟨(Nat.le_of_ble_eq_true rfl), (Nat.le_of_ble_eq_true rfl)⟩ rfl (fun r w1 H locs hQ V => ?_)
  rcases hQ with ⟨j_1, rfl, rfl, f_2, f_3⟩ | ⟨rfl, rfl, f_4⟩
  · have V : gW D T A s [(o, .inr (8, [.int (nI 0), .ref g1, .ref g2, .ref g3, .ref g4, .int (nI tp), .int w6, .int w7, .int w8, .int w9, .int w10, .int w11, .int w12, .int w13, .int w14, .ref g15, .int w16, .ref g17, .int w18, .int w19, .ref g20, .int w21, .ref g22, .ref g23, .ref g24, .int w25, .int w26, .int w27, .ref g28, .ref g29, .int w30, .ref g31, .ref g32, .ref g33])), (g1, .inl (T 0, 282, .inl fa))] H locs := V
    show W p l e _ s m args below meth c H locs _ _ _ (F0 m 10 ls [.int (nI 1)])
    rw [f_2] at hl
    refine lv_if_eq (tgt := 21) hx hb dX8_ring_10 (by decide) (fun c => absurd (show (nI 1) = 0 from c) (by decide +kernel)) (fun _ => ?_)
    refine lv_aload_n hx hb dX8_ring_13 rfl (lv_at hl 0 rfl) ?_
    refine lv_iload_n hx hb dX8_ring_14 rfl (lv_at hl 1 rfl) ?_
    refine g_callV (wr := []) (nA := 1) hC V hl.1 (m_ringOf_f l D T n o j_1 (nI 0) g1 g2 g3 g4 tp w6 w7 w8 w9 w10 w11 w12 w13 w14 g15 w16 g17 w18 w19 g20 w21 g22 g23 g24 w25 w26 w27 g28 g29 w30 g31 g32 g33 fa h_a (by first | assumption | omega)) w_1200 w_1202 w_s61 w_9 w_1203 (by decide +kernel) rfl ⟨(Nat.le_of_ble_eq_true rfl), (Nat.le_of_ble_eq_true rfl)⟩ 0 (ci := 8) rfl rfl [0, 1] [] rfl rfl rfl rfl (by decide) (Nat.le_of_ble_eq_true rfl) dX8_ring_15 ⟨(Nat.le_of_ble_eq_true rfl), (Nat.le_of_ble_eq_true rfl)⟩ rfl (fun r w1 H locs hQ V => ?_)
    obtain ⟨r_5, rfl, rfl, f_6, f_7, f_8, f_9⟩ := hQ
    have V : gW D T A s [(o, .inr (8, [.int (nI 0), .ref g1, .ref g2, .ref g3, .ref g4, .int (nI tp), .int w6, .int w7, .int w8, .int w9, .int w10, .int w11, .int w12, .int w13, .int w14, .ref g15, .int w16, .ref g17, .int w18, .int w19, .ref g20, .int w21, .ref g22, .ref g23, .ref g24, .int w25, .int w26, .int w27, .ref g28, .ref g29, .int w30, .ref g31, .ref g32, .ref g33])), (g1, .inl (T 0, 282, .inl fa))] H locs := V
    show W p l e _ s m args below meth c H locs _ _ _ (F0 m 18 ls [.int (nI r_5)])
    refine lv_goto (tgt := 23) hx hb dX8_ring_18 (by decide) ?_
    exact g_iret (Qr := (q_m_ring_f T n o i w0 g1 g2 g3 g4 tp w6 w7 w8 w9 w10 w11 w12 w13 w14 g15 w16 g17 w18 w19 g20 w21 g22 g23 g24 w25 w26 w27 g28 g29 w30 g31 g32 g33 fa)) hC V ⟨(Nat.le_of_ble_eq_true rfl), (Nat.le_of_ble_eq_true rfl)⟩ ⟨(nI r_5), rfl, rfl, (rg_y hn10 f_2 f_3 f_7)⟩ dX8_ring_23
  · have V : gW D T A s [(o, .inr (8, [.int (nI 0), .ref g1, .ref g2, .ref g3, .ref g4, .int (nI tp), .int w6, .int w7, .int w8, .int w9, .int w10, .int w11, .int w12, .int w13, .int w14, .ref g15, .int w16, .ref g17, .int w18, .int w19, .ref g20, .int w21, .ref g22, .ref g23, .ref g24, .int w25, .int w26, .int w27, .ref g28, .ref g29, .int w30, .ref g31, .ref g32, .ref g33])), (g1, .inl (T 0, 282, .inl fa))] H locs := V
    show W p l e _ s m args below meth c H locs _ _ _ (F0 m 10 ls [.int (nI 0)])
    refine lv_if_eq (tgt := 21) hx hb dX8_ring_10 (by decide) (fun _ => ?_) (fun c => absurd (show (nI 0) = 0 by decide +kernel) c)
    refine lv_bipush (v := (-2)) hx hb dX8_ring_21 (by decide +kernel) ?_
    exact g_iret (Qr := (q_m_ring_f T n o i w0 g1 g2 g3 g4 tp w6 w7 w8 w9 w10 w11 w12 w13 w14 g15 w16 g17 w18 w19 g20 w21 g22 g23 g24 w25 w26 w27 g28 g29 w30 g31 g32 g33 fa)) hC V ⟨(Nat.le_of_ble_eq_true rfl), (Nat.le_of_ble_eq_true rfl)⟩ ⟨(-2), rfl, rfl, (rg_o f_4)⟩ dX8_ring_23

def q_m_rings_f (T : Nat → ClassId) (n : Nat) (o : Nat) (w0 : Int32) (g1 : Nat) (g2 : Nat) (g3 : Nat) (g4 : Nat) (tp : Nat) (w6 : Int32) (w7 : Int32) (w8 : Int32) (w9 : Int32) (w10 : Int32) (w11 : Int32) (w12 : Int32) (w13 : Int32) (w14 : Int32) (g15 : Nat) (w16 : Int32) (g17 : Nat) (w18 : Int32) (w19 : Int32) (g20 : Nat) (w21 : Int32) (g22 : Nat) (g23 : Nat) (g24 : Nat) (w25 : Int32) (w26 : Int32) (w27 : Int32) (g28 : Nat) (g29 : Nat) (w30 : Int32) (g31 : Nat) (g32 : Nat) (g33 : Nat) (fa : Nat → Int32) : Option Value → va_W → Prop := fun rr ww => (∃ (z : Int32), rr = some (.int z) ∧ ww = [(o, .inr (8, [.int (nI 0), .ref g1, .ref g2, .ref g3, .ref g4, .int (nI tp), .int w6, .int w7, .int w8, .int w9, .int w10, .int w11, .int w12, .int w13, .int w14, .ref g15, .int w16, .ref g17, .int w18, .int w19, .ref g20, .int w21, .ref g22, .ref g23, .ref g24, .int w25, .int w26, .int w27, .ref g28, .ref g29, .int w30, .ref g31, .ref g32, .ref g33])), (g1, .inl (T 0, 282, .inl fa))] ∧ z = rcF fa n)
set_option maxHeartbeats 4000000 in
set_option maxRecDepth 100000 in
theorem m_rings_f (l : Launch) (D : va_G) (T : Nat → ClassId) (n : Nat) (o : Nat) (w0 : Int32) (g1 : Nat) (g2 : Nat) (g3 : Nat) (g4 : Nat) (tp : Nat) (w6 : Int32) (w7 : Int32) (w8 : Int32) (w9 : Int32) (w10 : Int32) (w11 : Int32) (w12 : Int32) (w13 : Int32) (w14 : Int32) (g15 : Nat) (w16 : Int32) (g17 : Nat) (w18 : Int32) (w19 : Int32) (g20 : Nat) (w21 : Int32) (g22 : Nat) (g23 : Nat) (g24 : Nat) (w25 : Int32) (w26 : Int32) (w27 : Int32) (g28 : Nat) (g29 : Nat) (w30 : Int32) (g31 : Nat) (g32 : Nat) (g33 : Nat) (fa : Nat → Int32) (h_a : MI n fa) : Ct l yX8_rings cX8_rings 5 (some .int) 2 0 0 D T [.ref o] [(o, .inr (8, [.int w0, .ref g1, .ref g2, .ref g3, .ref g4, .int (nI tp), .int w6, .int w7, .int w8, .int w9, .int w10, .int w11, .int w12, .int w13, .int w14, .ref g15, .int w16, .ref g17, .int w18, .int w19, .ref g20, .int w21, .ref g22, .ref g23, .ref g24, .int w25, .int w26, .int w27, .ref g28, .ref g29, .int w30, .ref g31, .ref g32, .ref g33])), (g1, .inl (T 0, 282, .inl fa))] (q_m_rings_f T n o w0 g1 g2 g3 g4 tp w6 w7 w8 w9 w10 w11 w12 w13 w14 g15 w16 g17 w18 w19 g20 w21 g22 g23 g24 w25 w26 w27 g28 g29 w30 g31 g32 g33 fa) := by
  refine Ct.of (cc := cX8_rings) (maxL := 5) (ret := (some .int)) (by decide) (Nat.le_of_ble_eq_true rfl) ?_
  intro p e s m args below meth c A ls hC hnm V hl
  obtain ⟨hx, hb, hr, hml, hown, hts, hlocks⟩ := id hC
  generalize hH : s.heap = H at V ⊢
  clear hH
  have hl : lv_has ls 5 [(0, .ref o)] := hl
  generalize hlo : ([] : List Loc) = locs at V ⊢
  clear hlo
  have ms0 := ms_rf h_a
  have hn10 := h_a.1
  refine lv_aload_n hx hb dX8_rings_0 rfl (lv_at hl 0 rfl) ?_
  refine lv_iconst (v := (nI 0)) hx hb dX8_rings_1 (by decide +kernel) ?_
  refine g_put hC V (ci := 8) uwX8 tyX8 tyX8_ok nmX8 0 rfl rfl 0 (by decide) w_912 rfl rfl rfl rfl (Nat.le_of_ble_eq_true rfl) (ws' := [(o, .inr (8, [.int (nI 0), .ref g1, .ref g2, .ref g3, .ref g4, .int (nI tp), .int w6, .int w7, .int w8, .int w9, .int w10, .int w11, .int w12, .int w13, .int w14, .ref g15, .int w16, .ref g17, .int w18, .int w19, .ref g20, .int w21, .ref g22, .ref g23, .ref g24, .int w25, .int w26, .int w27, .ref g28, .ref g29, .int w30, .ref g31, .ref g32, .ref g33])), (g1, .inl (T 0, 282, .inl fa))]) rfl dX8_rings_2 (fun H locs V => ?_)
  refine lv_iconst (v := (nI 0)) hx hb dX8_rings_5 (by decide +kernel) ?_
  refine lv_istore_n (lv' := [(1, .int (nI 0)), (0, .ref o)]) hx hb dX8_rings_6 rfl hl (by decide) rfl (fun ls hl => ?_)
  refine lv_iconst (v := (nI 0)) hx hb dX8_rings_7 (by decide +kernel) ?_
  refine lv_istore_n (lv' := [(2, .int (nI 0)), (1, .int (nI 0)), (0, .ref o)]) hx hb dX8_rings_8 rfl hl (by decide) rfl (fun ls hl => ?_)
  have L_1 : ∀ (fu : Nat) (k9 : Nat) (x1 : Int32), k9 ≤ n → x1 = rcF fa k9 → n - k9 < fu → ∀ (H : Heap) (locs : List Loc) (ls : Array Slot), gW D T A s [(o, .inr (8, [.int (nI 0), .ref g1, .ref g2, .ref g3, .ref g4, .int (nI tp), .int w6, .int w7, .int w8, .int w9, .int w10, .int w11, .int w12, .int w13, .int w14, .ref g15, .int w16, .ref g17, .int w18, .int w19, .ref g20, .int w21, .ref g22, .ref g23, .ref g24, .int w25, .int w26, .int w27, .ref g28, .ref g29, .int w30, .ref g31, .ref g32, .ref g33])), (g1, .inl (T 0, 282, .inl fa))] H locs → lv_has ls 5 [(2, .int (nI k9)), (1, .int x1), (0, .ref o)] → W p l e (rmD 2 0 0) s m args below meth c H locs 0 0 (MQ below (gQ D A (q_m_rings_f T n o w0 g1 g2 g3 g4 tp w6 w7 w8 w9 w10 w11 w12 w13 w14 g15 w16 g17 w18 w19 g20 w21 g22 g23 g24 w25 w26 w27 g28 g29 w30 g31 g32 g33 fa)) args s 0 0 A) (F0 m 9 ls []) := by
    intro fu_9
    induction fu_9 with
    | zero => intro k9 x1 hk9 hx1 hmu; exact absurd hmu (Nat.not_lt_zero _)
    | succ fu_9 ih_9 =>
      intro k9 x1 hk9 hx1 hmu_9 H locs ls V hl
      refine lv_iload_n hx hb dX8_rings_9 rfl (lv_at hl 0 rfl) ?_
      refine lv_aload_n hx hb dX8_rings_10 rfl (lv_at hl 2 rfl) ?_
      refine g_get hC V (ci := 8) uwX8 0 rfl rfl 1 (by decide) w_913 rfl rfl dX8_rings_11 ?_
      refine lv_iconst (v := (nI 0)) hx hb dX8_rings_14 (by decide +kernel) ?_
      refine g_iald hC V 1 rfl (vp_in_nI (by decide) (by decide)) (v := (nI n)) (by rw [nI_clamp (by decide)]; first | rfl | exact h_a.2.1) dX8_rings_15 ?_
      refine lv_icmp_ge (tgt := 94) hx hb dX8_rings_16 (by decide) (fun c_2 => ?_) (fun c_2 => ?_)
      · skip
        have c_2 := b_le (by omega) (by omega) c_2
        refine lv_iload_n hx hb dX8_rings_94 rfl (lv_at hl 1 rfl) ?_
        exact g_iret (Qr := (q_m_rings_f T n o w0 g1 g2 g3 g4 tp w6 w7 w8 w9 w10 w11 w12 w13 w14 g15 w16 g17 w18 w19 g20 w21 g22 g23 g24 w25 w26 w27 g28 g29 w30 g31 g32 g33 fa)) hC V ⟨(Nat.le_of_ble_eq_true rfl), (Nat.le_of_ble_eq_true rfl)⟩ ⟨x1, rfl, rfl, (by rw [hx1]; congr 1; omega)⟩ dX8_rings_95
      · skip
        have c_2 := b_nle (by omega) (by omega) c_2
        refine lv_aload_n hx hb dX8_rings_19 rfl (lv_at hl 2 rfl) ?_
        refine lv_iload_n hx hb dX8_rings_20 rfl (lv_at hl 0 rfl) ?_
        refine lv_aload_n hx hb dX8_rings_21 rfl (lv_at hl 2 rfl) ?_
        refine lv_iload_n hx hb dX8_rings_22 rfl (lv_at hl 0 rfl) ?_
        refine g_callV (wr := []) (nA := 1) hC V hl.1 (m_ringOf_f l D T n o k9 (nI 0) g1 g2 g3 g4 tp w6 w7 w8 w9 w10 w11 w12 w13 w14 g15 w16 g17 w18 w19 g20 w21 g22 g23 g24 w25 w26 w27 g28 g29 w30 g31 g32 g33 fa h_a (by first | assumption | omega)) w_1200 w_1202 w_s61 w_9 w_1203 (by decide +kernel) rfl ⟨(Nat.le_of_ble_eq_true rfl), (Nat.le_of_ble_eq_true rfl)⟩ 0 (ci := 8) rfl rfl [0, 1] [] rfl rfl rfl rfl (by decide) (Nat.le_of_ble_eq_true rfl) dX8_rings_23 ⟨(Nat.le_of_ble_eq_true rfl), (Nat.le_of_ble_eq_true rfl)⟩ rfl (fun r w1 H locs hQ V => ?_)
        obtain ⟨r_3, rfl, rfl, f_4, f_5, f_6, f_7⟩ := hQ
        have V : gW D T A s [(o, .inr (8, [.int (nI 0), .ref g1, .ref g2, .ref g3, .ref g4, .int (nI tp), .int w6, .int w7, .int w8, .int w9, .int w10, .int w11, .int w12, .int w13, .int w14, .ref g15, .int w16, .ref g17, .int w18, .int w19, .ref g20, .int w21, .ref g22, .ref g23, .ref g24, .int w25, .int w26, .int w27, .ref g28, .ref g29, .int w30, .ref g31, .ref g32, .ref g33])), (g1, .inl (T 0, 282, .inl fa))] H locs := V
        show W p l e _ s m args below meth c H locs _ _ _ (F0 m 26 ls [.int (nI r_3), .int (nI k9), .ref o])
        refine g_callV (wr := []) (nA := 2) hC V hl.1 (m_led l D T n o k9 r_3 (nI 0) g1 g2 g3 g4 tp w6 w7 w8 w9 w10 w11 w12 w13 w14 g15 w16 g17 w18 w19 g20 w21 g22 g23 g24 w25 w26 w27 g28 g29 w30 g31 g32 g33 fa h_a (by first | assumption | omega) (by first | assumption | omega)) w_1204 w_1206 w_s62 w_9 w_1207 (by decide +kernel) rfl ⟨(Nat.le_of_ble_eq_true rfl), (Nat.le_of_ble_eq_true rfl)⟩ 0 (ci := 8) rfl rfl [0, 1] [] rfl rfl rfl rfl (by decide) (Nat.le_of_ble_eq_true rfl) dX8_rings_26 ⟨(Nat.le_of_ble_eq_true rfl), (Nat.le_of_ble_eq_true rfl)⟩ rfl (fun r w1 H locs hQ V => ?_)
        obtain ⟨r_8, rfl, rfl, f_9⟩ := hQ
        have V : gW D T A s [(o, .inr (8, [.int (nI 0), .ref g1, .ref g2, .ref g3, .ref g4, .int (nI tp), .int w6, .int w7, .int w8, .int w9, .int w10, .int w11, .int w12, .int w13, .int w14, .ref g15, .int w16, .ref g17, .int w18, .int w19, .ref g20, .int w21, .ref g22, .ref g23, .ref g24, .int w25, .int w26, .int w27, .ref g28, .ref g29, .int w30, .ref g31, .ref g32, .ref g33])), (g1, .inl (T 0, 282, .inl fa))] H locs := V
        show W p l e _ s m args below meth c H locs _ _ _ (F0 m 29 ls [.int (nI r_8)])
        refine lv_iload_n hx hb dX8_rings_29 rfl (lv_at hl 0 rfl) ?_
        refine lv_icmp_ne (tgt := 37) hx hb dX8_rings_30 (by decide) (fun c_10 => ?_) (fun c_10 => ?_)
        · skip
          have c_10 := b_ne (by omega) (by omega) c_10
          have hlR : ledF fa k9 r_3 ≠ k9 := fun q => c_10 (f_9.1.trans q)
          refine lv_iconst (v := (nI 0)) hx hb dX8_rings_37 (by decide +kernel) ?_
          refine lv_istore_n (lv' := [(3, .int (nI 0)), (2, .int (nI k9)), (1, .int x1), (0, .ref o)]) hx hb dX8_rings_38 rfl hl (by decide) rfl (fun ls hl => ?_)
          refine lv_iconst (v := (nI 1)) hx hb dX8_rings_39 (by decide +kernel) ?_
          refine lv_istore (lv' := [(4, .int (nI 1)), (3, .int (nI 0)), (2, .int (nI k9)), (1, .int x1), (0, .ref o)]) hx hb dX8_rings_40 hl (by decide) rfl (fun ls hl => ?_)
          have L_11 : ∀ (fu : Nat) (k42 : Nat) (b3 : Int32), k42 ≤ 10 → RbS fa k9 r_3 k42 b3 → 1 ≤ k42 → 10 - k42 < fu → ∀ (H : Heap) (locs : List Loc) (ls : Array Slot), gW D T A s [(o, .inr (8, [.int (nI 0), .ref g1, .ref g2, .ref g3, .ref g4, .int (nI tp), .int w6, .int w7, .int w8, .int w9, .int w10, .int w11, .int w12, .int w13, .int w14, .ref g15, .int w16, .ref g17, .int w18, .int w19, .ref g20, .int w21, .ref g22, .ref g23, .ref g24, .int w25, .int w26, .int w27, .ref g28, .ref g29, .int w30, .ref g31, .ref g32, .ref g33])), (g1, .inl (T 0, 282, .inl fa))] H locs → lv_has ls 5 [(4, .int (nI k42)), (3, .int b3), (2, .int (nI k9)), (1, .int x1), (0, .ref o)] → W p l e (rmD 2 0 0) s m args below meth c H locs 0 0 (MQ below (gQ D A (q_m_rings_f T n o w0 g1 g2 g3 g4 tp w6 w7 w8 w9 w10 w11 w12 w13 w14 g15 w16 g17 w18 w19 g20 w21 g22 g23 g24 w25 w26 w27 g28 g29 w30 g31 g32 g33 fa)) args s 0 0 A) (F0 m 42 ls []) := by
            intro fu_42
            induction fu_42 with
            | zero => intro k42 b3 hk42 hrb hk42 hmu; exact absurd hmu (Nat.not_lt_zero _)
            | succ fu_42 ih_42 =>
              intro k42 b3 hk42 hrb hk42 hmu_42 H locs ls V hl
              refine lv_iload hx hb dX8_rings_42 (lv_at hl 0 rfl) ?_
              refine lv_bipush (v := (nI 10)) hx hb dX8_rings_44 (by decide +kernel) ?_
              refine lv_icmp_ge (tgt := 76) hx hb dX8_rings_46 (by decide) (fun c_12 => ?_) (fun c_12 => ?_)
              · skip
                have c_12 := b_le (by omega) (by omega) c_12
                refine lv_iload_n hx hb dX8_rings_76 rfl (lv_at hl 3 rfl) ?_
                refine lv_iload_n hx hb dX8_rings_77 rfl (lv_at hl 1 rfl) ?_
                refine lv_if_eq (tgt := 85) hx hb dX8_rings_78 (by decide) (fun c_13 => ?_) (fun c_13 => ?_)
                · skip
                  refine lv_iconst (v := (nI 0)) hx hb dX8_rings_85 (by decide +kernel) ?_
                  refine lv_iadd hx hb dX8_rings_86 ?_
                  refine lv_istore_n (lv' := [(1, .int (x1 + (nI 0))), (4, .int (nI k42)), (3, .int b3), (2, .int (nI k9)), (0, .ref o)]) hx hb dX8_rings_87 rfl hl (by decide) rfl (fun ls hl => ?_)
                  refine lv_iinc (v := (nI (k9 + 1))) (lv' := [(2, .int (nI (k9 + 1))), (1, .int (x1 + (nI 0))), (4, .int (nI k42)), (3, .int b3), (0, .ref o)]) hx hb dX8_rings_88 hl (k := 3) rfl (nI_1 _) (by decide) rfl (fun ls hl => ?_)
                  refine lv_goto (tgt := 9) hx hb dX8_rings_91 (by decide) ?_
                  exact ih_9 (k9 + 1) (x1 + (nI 0)) (by omega) (by rw [hx1]; exact ((add_n0 _).symm.trans (rc_n (hrb.1 c_13)))) (by omega) _ _ _ V (lv_sub hl [0, 1, 4] rfl)
                · skip
                  refine lv_iconst (v := (nI 1)) hx hb dX8_rings_81 (by decide +kernel) ?_
                  refine lv_goto (tgt := 86) hx hb dX8_rings_82 (by decide) ?_
                  refine lv_iadd hx hb dX8_rings_86 ?_
                  refine lv_istore_n (lv' := [(1, .int (x1 + (nI 1))), (4, .int (nI k42)), (3, .int b3), (2, .int (nI k9)), (0, .ref o)]) hx hb dX8_rings_87 rfl hl (by decide) rfl (fun ls hl => ?_)
                  refine lv_iinc (v := (nI (k9 + 1))) (lv' := [(2, .int (nI (k9 + 1))), (1, .int (x1 + (nI 1))), (4, .int (nI k42)), (3, .int b3), (0, .ref o)]) hx hb dX8_rings_88 hl (k := 3) rfl (nI_1 _) (by decide) rfl (fun ls hl => ?_)
                  refine lv_goto (tgt := 9) hx hb dX8_rings_91 (by decide) ?_
                  exact ih_9 (k9 + 1) (x1 + (nI 1)) (by omega) (by rw [hx1]; exact rc_y (rb_e hrb c_13 (by omega) f_6 f_4)) (by omega) _ _ _ V (lv_sub hl [0, 1, 4] rfl)
              · skip
                have c_12 := b_nle (by omega) (by omega) c_12
                refine lv_iload_n hx hb dX8_rings_49 rfl (lv_at hl 1 rfl) ?_
                refine lv_if_eq (tgt := 76) hx hb dX8_rings_50 (by decide) (fun c_14 => ?_) (fun c_14 => ?_)
                · skip
                  refine lv_iload_n hx hb dX8_rings_76 rfl (lv_at hl 3 rfl) ?_
                  refine lv_iload_n hx hb dX8_rings_77 rfl (lv_at hl 1 rfl) ?_
                  refine lv_if_eq (tgt := 85) hx hb dX8_rings_78 (by decide) (fun c_15 => ?_) (fun c_15 => ?_)
                  · skip
                    refine lv_iconst (v := (nI 0)) hx hb dX8_rings_85 (by decide +kernel) ?_
                    refine lv_iadd hx hb dX8_rings_86 ?_
                    refine lv_istore_n (lv' := [(1, .int (x1 + (nI 0))), (4, .int (nI k42)), (3, .int b3), (2, .int (nI k9)), (0, .ref o)]) hx hb dX8_rings_87 rfl hl (by decide) rfl (fun ls hl => ?_)
                    refine lv_iinc (v := (nI (k9 + 1))) (lv' := [(2, .int (nI (k9 + 1))), (1, .int (x1 + (nI 0))), (4, .int (nI k42)), (3, .int b3), (0, .ref o)]) hx hb dX8_rings_88 hl (k := 3) rfl (nI_1 _) (by decide) rfl (fun ls hl => ?_)
                    refine lv_goto (tgt := 9) hx hb dX8_rings_91 (by decide) ?_
                    exact ih_9 (k9 + 1) (x1 + (nI 0)) (by omega) (by rw [hx1]; exact ((add_n0 _).symm.trans (rc_n (hrb.1 c_15)))) (by omega) _ _ _ V (lv_sub hl [0, 1, 4] rfl)
                  · skip
                    refine lv_iconst (v := (nI 1)) hx hb dX8_rings_81 (by decide +kernel) ?_
                    refine lv_goto (tgt := 86) hx hb dX8_rings_82 (by decide) ?_
                    refine lv_iadd hx hb dX8_rings_86 ?_
                    refine lv_istore_n (lv' := [(1, .int (x1 + (nI 1))), (4, .int (nI k42)), (3, .int b3), (2, .int (nI k9)), (0, .ref o)]) hx hb dX8_rings_87 rfl hl (by decide) rfl (fun ls hl => ?_)
                    refine lv_iinc (v := (nI (k9 + 1))) (lv' := [(2, .int (nI (k9 + 1))), (1, .int (x1 + (nI 1))), (4, .int (nI k42)), (3, .int b3), (0, .ref o)]) hx hb dX8_rings_88 hl (k := 3) rfl (nI_1 _) (by decide) rfl (fun ls hl => ?_)
                    refine lv_goto (tgt := 9) hx hb dX8_rings_91 (by decide) ?_
                    exact ih_9 (k9 + 1) (x1 + (nI 1)) (by omega) (by rw [hx1]; exact (absurd c_14 c_15)) (by omega) _ _ _ V (lv_sub hl [0, 1, 4] rfl)
                · skip
                  refine lv_aload_n hx hb dX8_rings_53 rfl (lv_at hl 4 rfl) ?_
                  refine lv_iload_n hx hb dX8_rings_54 rfl (lv_at hl 2 rfl) ?_
                  refine lv_iload hx hb dX8_rings_55 (lv_at hl 0 rfl) ?_
                  refine g_callV (wr := []) (nA := 2) hC V hl.1 (m_led l D T n o k9 k42 (nI 0) g1 g2 g3 g4 tp w6 w7 w8 w9 w10 w11 w12 w13 w14 g15 w16 g17 w18 w19 g20 w21 g22 g23 g24 w25 w26 w27 g28 g29 w30 g31 g32 g33 fa h_a (by first | assumption | omega) (by first | assumption | omega)) w_1204 w_1206 w_s62 w_9 w_1207 (by decide +kernel) rfl ⟨(Nat.le_of_ble_eq_true rfl), (Nat.le_of_ble_eq_true rfl)⟩ 0 (ci := 8) rfl rfl [0, 1] [] rfl rfl rfl rfl (by decide) (Nat.le_of_ble_eq_true rfl) dX8_rings_57 ⟨(Nat.le_of_ble_eq_true rfl), (Nat.le_of_ble_eq_true rfl)⟩ rfl (fun r w1 H locs hQ V => ?_)
                  obtain ⟨r_16, rfl, rfl, f_17⟩ := hQ
                  have V : gW D T A s [(o, .inr (8, [.int (nI 0), .ref g1, .ref g2, .ref g3, .ref g4, .int (nI tp), .int w6, .int w7, .int w8, .int w9, .int w10, .int w11, .int w12, .int w13, .int w14, .ref g15, .int w16, .ref g17, .int w18, .int w19, .ref g20, .int w21, .ref g22, .ref g23, .ref g24, .int w25, .int w26, .int w27, .ref g28, .ref g29, .int w30, .ref g31, .ref g32, .ref g33])), (g1, .inl (T 0, 282, .inl fa))] H locs := V
                  show W p l e _ s m args below meth c H locs _ _ _ (F0 m 60 ls [.int (nI r_16)])
                  refine lv_iload_n hx hb dX8_rings_60 rfl (lv_at hl 2 rfl) ?_
                  refine lv_icmp_lt (tgt := 68) hx hb dX8_rings_61 (by decide) (fun c_18 => ?_) (fun c_18 => ?_)
                  · skip
                    have c_18 := b_lt (by omega) (by omega) c_18
                    refine lv_iconst (v := (nI 0)) hx hb dX8_rings_68 (by decide +kernel) ?_
                    refine lv_istore_n (lv' := [(3, .int (nI 0)), (4, .int (nI k42)), (2, .int (nI k9)), (1, .int x1), (0, .ref o)]) hx hb dX8_rings_69 rfl hl (by decide) rfl (fun ls hl => ?_)
                    refine lv_iinc (v := (nI (k42 + 1))) (lv' := [(4, .int (nI (k42 + 1))), (3, .int (nI 0)), (2, .int (nI k9)), (1, .int x1), (0, .ref o)]) hx hb dX8_rings_70 hl (k := 1) rfl (nI_1 _) (by decide) rfl (fun ls hl => ?_)
                    refine lv_goto (tgt := 42) hx hb dX8_rings_73 (by decide) ?_
                    exact ih_42 (k42 + 1) (nI 0) (by omega) (rb_0 (lr_lt (k := k42) (by rw [← f_17.1]; omega))) (by omega) (by omega) _ _ _ V (lv_sub hl [0, 1, 2, 3, 4] rfl)
                  · skip
                    have c_18 := b_nlt (by omega) (by omega) c_18
                    refine lv_iconst (v := (nI 1)) hx hb dX8_rings_64 (by decide +kernel) ?_
                    refine lv_goto (tgt := 69) hx hb dX8_rings_65 (by decide) ?_
                    refine lv_istore_n (lv' := [(3, .int (nI 1)), (4, .int (nI k42)), (2, .int (nI k9)), (1, .int x1), (0, .ref o)]) hx hb dX8_rings_69 rfl hl (by decide) rfl (fun ls hl => ?_)
                    refine lv_iinc (v := (nI (k42 + 1))) (lv' := [(4, .int (nI (k42 + 1))), (3, .int (nI 1)), (2, .int (nI k9)), (1, .int x1), (0, .ref o)]) hx hb dX8_rings_70 hl (k := 1) rfl (nI_1 _) (by decide) rfl (fun ls hl => ?_)
                    refine lv_goto (tgt := 42) hx hb dX8_rings_73 (by decide) ?_
                    exact ih_42 (k42 + 1) (nI 1) (by omega) (rb_s hrb c_14 (by rw [← f_17.1]; omega)) (by omega) (by omega) _ _ _ V (lv_sub hl [0, 1, 2, 3, 4] rfl)
          exact L_11 _ 1 (nI 0) (by omega) (rb_0 (lr_rn h_a (by omega) f_7 hlR)) (by omega) (Nat.lt_succ_self _) _ _ _ V (lv_sub hl [0, 1, 2, 3, 4] rfl)
        · skip
          have c_10 := b_eq (by omega) (by omega) c_10
          have hlR : ledF fa k9 r_3 = k9 := f_9.1.symm.trans c_10
          refine lv_iconst (v := (nI 1)) hx hb dX8_rings_33 (by decide +kernel) ?_
          refine lv_goto (tgt := 38) hx hb dX8_rings_34 (by decide) ?_
          refine lv_istore_n (lv' := [(3, .int (nI 1)), (2, .int (nI k9)), (1, .int x1), (0, .ref o)]) hx hb dX8_rings_38 rfl hl (by decide) rfl (fun ls hl => ?_)
          refine lv_iconst (v := (nI 1)) hx hb dX8_rings_39 (by decide +kernel) ?_
          refine lv_istore (lv' := [(4, .int (nI 1)), (3, .int (nI 1)), (2, .int (nI k9)), (1, .int x1), (0, .ref o)]) hx hb dX8_rings_40 hl (by decide) rfl (fun ls hl => ?_)
          have L_19 : ∀ (fu : Nat) (k42 : Nat) (b3 : Int32), k42 ≤ 10 → RbS fa k9 r_3 k42 b3 → 1 ≤ k42 → 10 - k42 < fu → ∀ (H : Heap) (locs : List Loc) (ls : Array Slot), gW D T A s [(o, .inr (8, [.int (nI 0), .ref g1, .ref g2, .ref g3, .ref g4, .int (nI tp), .int w6, .int w7, .int w8, .int w9, .int w10, .int w11, .int w12, .int w13, .int w14, .ref g15, .int w16, .ref g17, .int w18, .int w19, .ref g20, .int w21, .ref g22, .ref g23, .ref g24, .int w25, .int w26, .int w27, .ref g28, .ref g29, .int w30, .ref g31, .ref g32, .ref g33])), (g1, .inl (T 0, 282, .inl fa))] H locs → lv_has ls 5 [(4, .int (nI k42)), (3, .int b3), (2, .int (nI k9)), (1, .int x1), (0, .ref o)] → W p l e (rmD 2 0 0) s m args below meth c H locs 0 0 (MQ below (gQ D A (q_m_rings_f T n o w0 g1 g2 g3 g4 tp w6 w7 w8 w9 w10 w11 w12 w13 w14 g15 w16 g17 w18 w19 g20 w21 g22 g23 g24 w25 w26 w27 g28 g29 w30 g31 g32 g33 fa)) args s 0 0 A) (F0 m 42 ls []) := by
            intro fu_42
            induction fu_42 with
            | zero => intro k42 b3 hk42 hrb hk42 hmu; exact absurd hmu (Nat.not_lt_zero _)
            | succ fu_42 ih_42 =>
              intro k42 b3 hk42 hrb hk42 hmu_42 H locs ls V hl
              refine lv_iload hx hb dX8_rings_42 (lv_at hl 0 rfl) ?_
              refine lv_bipush (v := (nI 10)) hx hb dX8_rings_44 (by decide +kernel) ?_
              refine lv_icmp_ge (tgt := 76) hx hb dX8_rings_46 (by decide) (fun c_20 => ?_) (fun c_20 => ?_)
              · skip
                have c_20 := b_le (by omega) (by omega) c_20
                refine lv_iload_n hx hb dX8_rings_76 rfl (lv_at hl 3 rfl) ?_
                refine lv_iload_n hx hb dX8_rings_77 rfl (lv_at hl 1 rfl) ?_
                refine lv_if_eq (tgt := 85) hx hb dX8_rings_78 (by decide) (fun c_21 => ?_) (fun c_21 => ?_)
                · skip
                  refine lv_iconst (v := (nI 0)) hx hb dX8_rings_85 (by decide +kernel) ?_
                  refine lv_iadd hx hb dX8_rings_86 ?_
                  refine lv_istore_n (lv' := [(1, .int (x1 + (nI 0))), (4, .int (nI k42)), (3, .int b3), (2, .int (nI k9)), (0, .ref o)]) hx hb dX8_rings_87 rfl hl (by decide) rfl (fun ls hl => ?_)
                  refine lv_iinc (v := (nI (k9 + 1))) (lv' := [(2, .int (nI (k9 + 1))), (1, .int (x1 + (nI 0))), (4, .int (nI k42)), (3, .int b3), (0, .ref o)]) hx hb dX8_rings_88 hl (k := 3) rfl (nI_1 _) (by decide) rfl (fun ls hl => ?_)
                  refine lv_goto (tgt := 9) hx hb dX8_rings_91 (by decide) ?_
                  exact ih_9 (k9 + 1) (x1 + (nI 0)) (by omega) (by rw [hx1]; exact ((add_n0 _).symm.trans (rc_n (hrb.1 c_21)))) (by omega) _ _ _ V (lv_sub hl [0, 1, 4] rfl)
                · skip
                  refine lv_iconst (v := (nI 1)) hx hb dX8_rings_81 (by decide +kernel) ?_
                  refine lv_goto (tgt := 86) hx hb dX8_rings_82 (by decide) ?_
                  refine lv_iadd hx hb dX8_rings_86 ?_
                  refine lv_istore_n (lv' := [(1, .int (x1 + (nI 1))), (4, .int (nI k42)), (3, .int b3), (2, .int (nI k9)), (0, .ref o)]) hx hb dX8_rings_87 rfl hl (by decide) rfl (fun ls hl => ?_)
                  refine lv_iinc (v := (nI (k9 + 1))) (lv' := [(2, .int (nI (k9 + 1))), (1, .int (x1 + (nI 1))), (4, .int (nI k42)), (3, .int b3), (0, .ref o)]) hx hb dX8_rings_88 hl (k := 3) rfl (nI_1 _) (by decide) rfl (fun ls hl => ?_)
                  refine lv_goto (tgt := 9) hx hb dX8_rings_91 (by decide) ?_
                  exact ih_9 (k9 + 1) (x1 + (nI 1)) (by omega) (by rw [hx1]; exact rc_y (rb_e hrb c_21 (by omega) f_6 f_4)) (by omega) _ _ _ V (lv_sub hl [0, 1, 4] rfl)
              · skip
                have c_20 := b_nle (by omega) (by omega) c_20
                refine lv_iload_n hx hb dX8_rings_49 rfl (lv_at hl 1 rfl) ?_
                refine lv_if_eq (tgt := 76) hx hb dX8_rings_50 (by decide) (fun c_22 => ?_) (fun c_22 => ?_)
                · skip
                  refine lv_iload_n hx hb dX8_rings_76 rfl (lv_at hl 3 rfl) ?_
                  refine lv_iload_n hx hb dX8_rings_77 rfl (lv_at hl 1 rfl) ?_
                  refine lv_if_eq (tgt := 85) hx hb dX8_rings_78 (by decide) (fun c_23 => ?_) (fun c_23 => ?_)
                  · skip
                    refine lv_iconst (v := (nI 0)) hx hb dX8_rings_85 (by decide +kernel) ?_
                    refine lv_iadd hx hb dX8_rings_86 ?_
                    refine lv_istore_n (lv' := [(1, .int (x1 + (nI 0))), (4, .int (nI k42)), (3, .int b3), (2, .int (nI k9)), (0, .ref o)]) hx hb dX8_rings_87 rfl hl (by decide) rfl (fun ls hl => ?_)
                    refine lv_iinc (v := (nI (k9 + 1))) (lv' := [(2, .int (nI (k9 + 1))), (1, .int (x1 + (nI 0))), (4, .int (nI k42)), (3, .int b3), (0, .ref o)]) hx hb dX8_rings_88 hl (k := 3) rfl (nI_1 _) (by decide) rfl (fun ls hl => ?_)
                    refine lv_goto (tgt := 9) hx hb dX8_rings_91 (by decide) ?_
                    exact ih_9 (k9 + 1) (x1 + (nI 0)) (by omega) (by rw [hx1]; exact ((add_n0 _).symm.trans (rc_n (hrb.1 c_23)))) (by omega) _ _ _ V (lv_sub hl [0, 1, 4] rfl)
                  · skip
                    refine lv_iconst (v := (nI 1)) hx hb dX8_rings_81 (by decide +kernel) ?_
                    refine lv_goto (tgt := 86) hx hb dX8_rings_82 (by decide) ?_
                    refine lv_iadd hx hb dX8_rings_86 ?_
                    refine lv_istore_n (lv' := [(1, .int (x1 + (nI 1))), (4, .int (nI k42)), (3, .int b3), (2, .int (nI k9)), (0, .ref o)]) hx hb dX8_rings_87 rfl hl (by decide) rfl (fun ls hl => ?_)
                    refine lv_iinc (v := (nI (k9 + 1))) (lv' := [(2, .int (nI (k9 + 1))), (1, .int (x1 + (nI 1))), (4, .int (nI k42)), (3, .int b3), (0, .ref o)]) hx hb dX8_rings_88 hl (k := 3) rfl (nI_1 _) (by decide) rfl (fun ls hl => ?_)
                    refine lv_goto (tgt := 9) hx hb dX8_rings_91 (by decide) ?_
                    exact ih_9 (k9 + 1) (x1 + (nI 1)) (by omega) (by rw [hx1]; exact (absurd c_22 c_23)) (by omega) _ _ _ V (lv_sub hl [0, 1, 4] rfl)
                · skip
                  refine lv_aload_n hx hb dX8_rings_53 rfl (lv_at hl 4 rfl) ?_
                  refine lv_iload_n hx hb dX8_rings_54 rfl (lv_at hl 2 rfl) ?_
                  refine lv_iload hx hb dX8_rings_55 (lv_at hl 0 rfl) ?_
                  refine g_callV (wr := []) (nA := 2) hC V hl.1 (m_led l D T n o k9 k42 (nI 0) g1 g2 g3 g4 tp w6 w7 w8 w9 w10 w11 w12 w13 w14 g15 w16 g17 w18 w19 g20 w21 g22 g23 g24 w25 w26 w27 g28 g29 w30 g31 g32 g33 fa h_a (by first | assumption | omega) (by first | assumption | omega)) w_1204 w_1206 w_s62 w_9 w_1207 (by decide +kernel) rfl ⟨(Nat.le_of_ble_eq_true rfl), (Nat.le_of_ble_eq_true rfl)⟩ 0 (ci := 8) rfl rfl [0, 1] [] rfl rfl rfl rfl (by decide) (Nat.le_of_ble_eq_true rfl) dX8_rings_57 ⟨(Nat.le_of_ble_eq_true rfl), (Nat.le_of_ble_eq_true rfl)⟩ rfl (fun r w1 H locs hQ V => ?_)
                  obtain ⟨r_24, rfl, rfl, f_25⟩ := hQ
                  have V : gW D T A s [(o, .inr (8, [.int (nI 0), .ref g1, .ref g2, .ref g3, .ref g4, .int (nI tp), .int w6, .int w7, .int w8, .int w9, .int w10, .int w11, .int w12, .int w13, .int w14, .ref g15, .int w16, .ref g17, .int w18, .int w19, .ref g20, .int w21, .ref g22, .ref g23, .ref g24, .int w25, .int w26, .int w27, .ref g28, .ref g29, .int w30, .ref g31, .ref g32, .ref g33])), (g1, .inl (T 0, 282, .inl fa))] H locs := V
                  show W p l e _ s m args below meth c H locs _ _ _ (F0 m 60 ls [.int (nI r_24)])
                  refine lv_iload_n hx hb dX8_rings_60 rfl (lv_at hl 2 rfl) ?_
                  refine lv_icmp_lt (tgt := 68) hx hb dX8_rings_61 (by decide) (fun c_26 => ?_) (fun c_26 => ?_)
                  · skip
                    have c_26 := b_lt (by omega) (by omega) c_26
                    refine lv_iconst (v := (nI 0)) hx hb dX8_rings_68 (by decide +kernel) ?_
                    refine lv_istore_n (lv' := [(3, .int (nI 0)), (4, .int (nI k42)), (2, .int (nI k9)), (1, .int x1), (0, .ref o)]) hx hb dX8_rings_69 rfl hl (by decide) rfl (fun ls hl => ?_)
                    refine lv_iinc (v := (nI (k42 + 1))) (lv' := [(4, .int (nI (k42 + 1))), (3, .int (nI 0)), (2, .int (nI k9)), (1, .int x1), (0, .ref o)]) hx hb dX8_rings_70 hl (k := 1) rfl (nI_1 _) (by decide) rfl (fun ls hl => ?_)
                    refine lv_goto (tgt := 42) hx hb dX8_rings_73 (by decide) ?_
                    exact ih_42 (k42 + 1) (nI 0) (by omega) (rb_0 (lr_lt (k := k42) (by rw [← f_25.1]; omega))) (by omega) (by omega) _ _ _ V (lv_sub hl [0, 1, 2, 3, 4] rfl)
                  · skip
                    have c_26 := b_nlt (by omega) (by omega) c_26
                    refine lv_iconst (v := (nI 1)) hx hb dX8_rings_64 (by decide +kernel) ?_
                    refine lv_goto (tgt := 69) hx hb dX8_rings_65 (by decide) ?_
                    refine lv_istore_n (lv' := [(3, .int (nI 1)), (4, .int (nI k42)), (2, .int (nI k9)), (1, .int x1), (0, .ref o)]) hx hb dX8_rings_69 rfl hl (by decide) rfl (fun ls hl => ?_)
                    refine lv_iinc (v := (nI (k42 + 1))) (lv' := [(4, .int (nI (k42 + 1))), (3, .int (nI 1)), (2, .int (nI k9)), (1, .int x1), (0, .ref o)]) hx hb dX8_rings_70 hl (k := 1) rfl (nI_1 _) (by decide) rfl (fun ls hl => ?_)
                    refine lv_goto (tgt := 42) hx hb dX8_rings_73 (by decide) ?_
                    exact ih_42 (k42 + 1) (nI 1) (by omega) (rb_s hrb c_22 (by rw [← f_25.1]; omega)) (by omega) (by omega) _ _ _ V (lv_sub hl [0, 1, 2, 3, 4] rfl)
          exact L_19 _ 1 (nI 1) (by omega) (rb_1 hlR) (by omega) (Nat.lt_succ_self _) _ _ _ V (lv_sub hl [0, 1, 2, 3, 4] rfl)
  exact L_1 _ 0 (nI 0) (by omega) rfl (Nat.lt_succ_self _) _ _ _ V (lv_sub hl [0, 1, 2] rfl)
