theorem wm_1 {cm : Int32} {j : Nat} (h : ∃ p, p ≤ 60 * 10 ∧ cm = nI p - nI j) (hj : j < 31) (hc : 0 < cm) : ∃ q, 1 ≤ q ∧ q ≤ 700 ∧ cm = nI q := by
  obtain ⟨p, hp, e⟩ := h
  by_cases c : j ≤ p
  · rw [nI_sub c] at e
    refine ⟨p - j, ?_, by omega, e⟩
    rcases Nat.eq_zero_or_pos (p - j) with h0 | h0
    · rw [h0] at e
      rw [e] at hc
      exact absurd hc (by decide +kernel)
    · exact h0
  · exfalso
    rw [e] at hc
    exact absurd hc (Int32.not_lt.mpr (Int32.le_of_lt (neg_sub (by omega) (by omega))))
theorem wm_0 {j : Nat} : ∃ p, p ≤ 60 * 0 ∧ -(nI j) = nI p - nI j := ⟨0, Nat.le_refl _, by rw [show nI 0 = 0 by decide +kernel, Int32.zero_sub]⟩
theorem wm_s {cm : Int32} {k j b : Nat} (h : ∃ p, p ≤ 60 * k ∧ cm = nI p - nI j) (hb : b < 61) : ∃ p, p ≤ 60 * (k + 1) ∧ cm + nI b = nI p - nI j := by
  obtain ⟨p, hp, e⟩ := h
  refine ⟨p + b, by omega, ?_⟩
  rw [e, ← nI_add, Int32.sub_eq_add_neg, Int32.sub_eq_add_neg, Int32.add_assoc, Int32.add_assoc, Int32.add_comm (-nI j) (nI b)]
theorem wm_s0 {cm : Int32} {k j : Nat} (h : ∃ p, p ≤ 60 * k ∧ cm = nI p - nI j) : ∃ p, p ≤ 60 * (k + 1) ∧ cm + nI 0 = nI p - nI j := wm_s h (by decide)
theorem wm_n {cm : Int32} {k j : Nat} (h : ∃ p, p ≤ 60 * k ∧ cm = nI p - nI j) (hk : k ≤ 10) : ∃ p, p ≤ 60 * 10 ∧ cm = nI p - nI j := by
  obtain ⟨p, hp, e⟩ := h
  exact ⟨p, by omega, e⟩

def q_m_cold (T : Nat → ClassId) (n : Nat) (o : Nat) (i : Int32) (w0 : Int32) (g1 : Nat) (g2 : Nat) (g3 : Nat) (g4 : Nat) (tp : Nat) (w6 : Int32) (w7 : Int32) (w8 : Int32) (w9 : Int32) (w10 : Int32) (w11 : Int32) (w12 : Int32) (w13 : Int32) (w14 : Int32) (g15 : Nat) (w16 : Int32) (g17 : Nat) (w18 : Int32) (w19 : Int32) (g20 : Nat) (w21 : Int32) (g22 : Nat) (g23 : Nat) (g24 : Nat) (w25 : Int32) (w26 : Int32) (w27 : Int32) (g28 : Nat) (g29 : Nat) (w30 : Int32) (g31 : Nat) (g32 : Nat) (g33 : Nat) (fa : Nat → Int32) : Option Value → va_W → Prop := fun rr ww => (∃ (z : Int32), rr = some (.int z) ∧ ww = [(o, .inr (8, [.int (nI 0), .ref g1, .ref g2, .ref g3, .ref g4, .int (nI tp), .int w6, .int w7, .int w8, .int w9, .int w10, .int w11, .int w12, .int w13, .int w14, .ref g15, .int w16, .ref g17, .int w18, .int w19, .ref g20, .int w21, .ref g22, .ref g23, .ref g24, .int w25, .int w26, .int w27, .ref g28, .ref g29, .int w30, .ref g31, .ref g32, .ref g33])), (g1, .inl (T 0, 282, .inl fa))])
set_option maxHeartbeats 4000000 in
set_option maxRecDepth 100000 in
theorem m_cold (l : Launch) (D : va_G) (T : Nat → ClassId) (n : Nat) (o : Nat) (i : Int32) (w0 : Int32) (g1 : Nat) (g2 : Nat) (g3 : Nat) (g4 : Nat) (tp : Nat) (w6 : Int32) (w7 : Int32) (w8 : Int32) (w9 : Int32) (w10 : Int32) (w11 : Int32) (w12 : Int32) (w13 : Int32) (w14 : Int32) (g15 : Nat) (w16 : Int32) (g17 : Nat) (w18 : Int32) (w19 : Int32) (g20 : Nat) (w21 : Int32) (g22 : Nat) (g23 : Nat) (g24 : Nat) (w25 : Int32) (w26 : Int32) (w27 : Int32) (g28 : Nat) (g29 : Nat) (w30 : Int32) (g31 : Nat) (g32 : Nat) (g33 : Nat) (fa : Nat → Int32) (h_a : MI n fa) : Ct l yX8_cold cX8_cold 4 (some .int) 2 0 0 D T [.ref o, .int i] [(o, .inr (8, [.int w0, .ref g1, .ref g2, .ref g3, .ref g4, .int (nI tp), .int w6, .int w7, .int w8, .int w9, .int w10, .int w11, .int w12, .int w13, .int w14, .ref g15, .int w16, .ref g17, .int w18, .int w19, .ref g20, .int w21, .ref g22, .ref g23, .ref g24, .int w25, .int w26, .int w27, .ref g28, .ref g29, .int w30, .ref g31, .ref g32, .ref g33])), (g1, .inl (T 0, 282, .inl fa))] (q_m_cold T n o i w0 g1 g2 g3 g4 tp w6 w7 w8 w9 w10 w11 w12 w13 w14 g15 w16 g17 w18 w19 g20 w21 g22 g23 g24 w25 w26 w27 g28 g29 w30 g31 g32 g33 fa) := by
  refine Ct.of (cc := cX8_cold) (maxL := 4) (ret := (some .int)) (by decide) (Nat.le_of_ble_eq_true rfl) ?_
  intro p e s m args below meth c A ls hC hnm V hl
  obtain ⟨hx, hb, hr, hml, hown, hts, hlocks⟩ := id hC
  generalize hH : s.heap = H at V ⊢
  clear hH
  have hl : lv_has ls 4 [(0, .ref o), (1, .int i)] := hl
  generalize hlo : ([] : List Loc) = locs at V ⊢
  clear hlo
  have ms0 := ms_rf h_a
  have hn10 := h_a.1
  refine lv_aload_n hx hb dX8_cold_0 rfl (lv_at hl 0 rfl) ?_
  refine lv_iconst (v := (nI 0)) hx hb dX8_cold_1 (by decide +kernel) ?_
  refine g_put hC V (ci := 8) uwX8 tyX8 tyX8_ok nmX8 0 rfl rfl 0 (by decide) w_912 rfl rfl rfl rfl (Nat.le_of_ble_eq_true rfl) (ws' := [(o, .inr (8, [.int (nI 0), .ref g1, .ref g2, .ref g3, .ref g4, .int (nI tp), .int w6, .int w7, .int w8, .int w9, .int w10, .int w11, .int w12, .int w13, .int w14, .ref g15, .int w16, .ref g17, .int w18, .int w19, .ref g20, .int w21, .ref g22, .ref g23, .ref g24, .int w25, .int w26, .int w27, .ref g28, .ref g29, .int w30, .ref g31, .ref g32, .ref g33])), (g1, .inl (T 0, 282, .inl fa))]) rfl dX8_cold_2 (fun H locs V => ?_)
  refine lv_aload_n hx hb dX8_cold_5 rfl (lv_at hl 0 rfl) ?_
  refine lv_iload_n hx hb dX8_cold_6 rfl (lv_at hl 1 rfl) ?_
  refine g_callV (wr := []) (nA := 1) hC V hl.1 (m_isSmith l D T n o i (nI 0) g1 g2 g3 g4 tp w6 w7 w8 w9 w10 w11 w12 w13 w14 g15 w16 g17 w18 w19 g20 w21 g22 g23 g24 w25 w26 w27 g28 g29 w30 g31 g32 g33 fa h_a) w_1083 w_1085 w_s46 w_9 w_1086 (by decide +kernel) rfl ⟨(Nat.le_of_ble_eq_true rfl), (Nat.le_of_ble_eq_true rfl)⟩ 0 (ci := 8) rfl rfl [0, 1] [] rfl rfl rfl rfl (by decide) (Nat.le_of_ble_eq_true rfl) dX8_cold_7 ⟨(Nat.le_of_ble_eq_true rfl), (Nat.le_of_ble_eq_true rfl)⟩ rfl (fun r w1 H locs hQ V => ?_)
  rcases hQ with ⟨j_1, rfl, rfl, f_2, f_3⟩ | ⟨rfl, rfl⟩
  · have V : gW D T A s [(o, .inr (8, [.int (nI 0), .ref g1, .ref g2, .ref g3, .ref g4, .int (nI tp), .int w6, .int w7, .int w8, .int w9, .int w10, .int w11, .int w12, .int w13, .int w14, .ref g15, .int w16, .ref g17, .int w18, .int w19, .ref g20, .int w21, .ref g22, .ref g23, .ref g24, .int w25, .int w26, .int w27, .ref g28, .ref g29, .int w30, .ref g31, .ref g32, .ref g33])), (g1, .inl (T 0, 282, .inl fa))] H locs := V
    show W p l e _ s m args below meth c H locs _ _ _ (F0 m 10 ls [.int (nI 1)])
    rw [f_2] at hl
    refine lv_if_ne (tgt := 16) hx hb dX8_cold_10 (by decide) (fun _ => ?_) (fun c => absurd (show (nI 1) = 0 from c) (by decide +kernel))
    refine lv_aload_n hx hb dX8_cold_16 rfl (lv_at hl 0 rfl) ?_
    refine g_get hC V (ci := 8) uwX8 0 rfl rfl 1 (by decide) w_913 rfl rfl dX8_cold_17 ?_
    refine lv_bipush (v := (nI 24)) hx hb dX8_cold_20 (by decide +kernel) ?_
    refine lv_iload_n hx hb dX8_cold_22 rfl (lv_at hl 1 rfl) ?_
    refine lv_iadd hx hb dX8_cold_23 ?_
    refine g_vi (y := (nI (24 + j_1))) (nI_add _ _) ?_
    obtain ⟨j_4, hj_4, ej_4⟩ := bd_ex (mi_heat h_a (i := j_1) (by omega))
    refine g_iald hC V 1 rfl (vp_in_nI (by omega) (by omega)) (v := (nI j_4)) (by rw [nI_clamp (by omega)]; exact ej_4) dX8_cold_24 ?_
    refine lv_istore_n (lv' := [(2, .int (nI j_4)), (0, .ref o), (1, .int (nI j_1))]) hx hb dX8_cold_25 rfl hl (by decide) rfl (fun ls hl => ?_)
    refine lv_iconst (v := (nI 0)) hx hb dX8_cold_26 (by decide +kernel) ?_
    refine lv_istore_n (lv' := [(3, .int (nI 0)), (2, .int (nI j_4)), (0, .ref o), (1, .int (nI j_1))]) hx hb dX8_cold_27 rfl hl (by decide) rfl (fun ls hl => ?_)
    have L_5 : ∀ (fu : Nat) (now_ : Nat) (x28_3 : Int32), now_ ≤ 255 → now_ < fu → ∀ (H : Heap) (locs : List Loc) (ls : Array Slot), gW D T A s [(o, .inr (8, [.int (nI 0), .ref g1, .ref g2, .ref g3, .ref g4, .int (nI tp), .int w6, .int w7, .int w8, .int w9, .int w10, .int w11, .int w12, .int w13, .int w14, .ref g15, .int w16, .ref g17, .int w18, .int w19, .ref g20, .int w21, .ref g22, .ref g23, .ref g24, .int w25, .int w26, .int w27, .ref g28, .ref g29, .int w30, .ref g31, .ref g32, .ref g33])), (g1, .inl (T 0, 282, .inl fa))] H locs → lv_has ls 4 [(3, .int x28_3), (2, .int (nI now_)), (0, .ref o), (1, .int (nI j_1))] → W p l e (rmD 2 0 0) s m args below meth c H locs 0 0 (MQ below (gQ D A (q_m_cold T n o i w0 g1 g2 g3 g4 tp w6 w7 w8 w9 w10 w11 w12 w13 w14 g15 w16 g17 w18 w19 g20 w21 g22 g23 g24 w25 w26 w27 g28 g29 w30 g31 g32 g33 fa)) args s 0 0 A) (F0 m 28 ls []) := by
      intro fu_28
      induction fu_28 with
      | zero => intro now_ x28_3 hnow hmu; exact absurd hmu (Nat.not_lt_zero _)
      | succ fu_28 ih_28 =>
        intro now_ x28_3 hnow hmu_28 H locs ls V hl
        refine lv_iload_n hx hb dX8_cold_28 rfl (lv_at hl 1 rfl) ?_
        refine lv_aload_n hx hb dX8_cold_29 rfl (lv_at hl 2 rfl) ?_
        refine g_get hC V (ci := 8) uwX8 0 rfl rfl 1 (by decide) w_913 rfl rfl dX8_cold_30 ?_
        refine lv_bipush (v := (nI 34)) hx hb dX8_cold_33 (by decide +kernel) ?_
        refine lv_iload_n hx hb dX8_cold_35 rfl (lv_at hl 3 rfl) ?_
        refine lv_iadd hx hb dX8_cold_36 ?_
        refine g_vi (y := (nI (34 + j_1))) (nI_add _ _) ?_
        refine g_iald hC V 1 rfl (vp_in_nI (by omega) (by omega)) (v := (fa (34 + j_1))) (congrArg _ (nI_clamp (by omega))) dX8_cold_37 ?_
        refine lv_icmp_lt (tgt := 80) hx hb dX8_cold_38 (by decide) (fun c_6 => ?_) (fun c_6 => ?_)
        · skip
          refine lv_iload_n hx hb dX8_cold_80 rfl (lv_at hl 0 rfl) ?_
          exact g_iret (Qr := (q_m_cold T n o i w0 g1 g2 g3 g4 tp w6 w7 w8 w9 w10 w11 w12 w13 w14 g15 w16 g17 w18 w19 g20 w21 g22 g23 g24 w25 w26 w27 g28 g29 w30 g31 g32 g33 fa)) hC V ⟨(Nat.le_of_ble_eq_true rfl), (Nat.le_of_ble_eq_true rfl)⟩ ⟨x28_3, rfl, rfl⟩ dX8_cold_81
        · skip
          refine lv_aload_n hx hb dX8_cold_41 rfl (lv_at hl 2 rfl) ?_
          refine g_get hC V (ci := 8) uwX8 0 rfl rfl 1 (by decide) w_913 rfl rfl dX8_cold_42 ?_
          refine lv_bipush (v := (nI 14)) hx hb dX8_cold_45 (by decide +kernel) ?_
          refine lv_iload_n hx hb dX8_cold_47 rfl (lv_at hl 3 rfl) ?_
          refine lv_iadd hx hb dX8_cold_48 ?_
          refine g_vi (y := (nI (14 + j_1))) (nI_add _ _) ?_
          obtain ⟨j_7, hj_7, ej_7⟩ := bd_ex (mi_cool h_a (i := j_1) (by omega))
          refine g_iald hC V 1 rfl (vp_in_nI (by omega) (by omega)) (v := (nI j_7)) (by rw [nI_clamp (by omega)]; exact ej_7) dX8_cold_49 ?_
          refine lv_if_eq (tgt := 57) hx hb dX8_cold_50 (by decide) (fun c_8 => ?_) (fun c_8 => ?_)
          · skip
            rw [show (0 : Int32) = nI 0 from rfl] at c_8
            have c_8 := b_eq (by omega) (by omega) c_8
            refine lv_iconst (v := (-1)) hx hb dX8_cold_57 (by decide +kernel) ?_
            exact g_iret (Qr := (q_m_cold T n o i w0 g1 g2 g3 g4 tp w6 w7 w8 w9 w10 w11 w12 w13 w14 g15 w16 g17 w18 w19 g20 w21 g22 g23 g24 w25 w26 w27 g28 g29 w30 g31 g32 g33 fa)) hC V ⟨(Nat.le_of_ble_eq_true rfl), (Nat.le_of_ble_eq_true rfl)⟩ ⟨(-1), rfl, rfl⟩ dX8_cold_58
          · skip
            rw [show (0 : Int32) = nI 0 from rfl] at c_8
            have c_8 := b_ne (by omega) (by omega) c_8
            refine lv_iload_n hx hb dX8_cold_53 rfl (lv_at hl 1 rfl) ?_
            refine lv_if_ne (tgt := 59) hx hb dX8_cold_54 (by decide) (fun c_9 => ?_) (fun c_9 => ?_)
            · skip
              rw [show (0 : Int32) = nI 0 from rfl] at c_9
              have c_9 := b_ne (by omega) (by omega) c_9
              refine lv_iload_n hx hb dX8_cold_59 rfl (lv_at hl 1 rfl) ?_
              refine lv_aload_n hx hb dX8_cold_60 rfl (lv_at hl 2 rfl) ?_
              refine g_get hC V (ci := 8) uwX8 0 rfl rfl 1 (by decide) w_913 rfl rfl dX8_cold_61 ?_
              refine lv_bipush (v := (nI 14)) hx hb dX8_cold_64 (by decide +kernel) ?_
              refine lv_iload_n hx hb dX8_cold_66 rfl (lv_at hl 3 rfl) ?_
              refine lv_iadd hx hb dX8_cold_67 ?_
              refine g_vi (y := (nI (14 + j_1))) (nI_add _ _) ?_
              refine g_iald hC V 1 rfl (vp_in_nI (by omega) (by omega)) (v := (nI j_7)) (by rw [nI_clamp (by omega)]; exact ej_7) dX8_cold_68 ?_
              refine lv_isub hx hb dX8_cold_69 ?_
              refine g_callSU (nA := 1) hC V hl.1 (m_inBounds l D T ((nI now_) - (nI j_7))) w_1133 w_1134 w_9 w_1135 (by decide +kernel) rfl ⟨(Nat.le_of_ble_eq_true rfl), (Nat.le_of_ble_eq_true rfl)⟩ [] rfl rfl (Nat.le_of_ble_eq_true rfl) dX8_cold_70 ⟨(Nat.le_of_ble_eq_true rfl), (Nat.le_of_ble_eq_true rfl)⟩ rfl (fun r w1 H locs hQ V => ?_)
              obtain ⟨z_10, rfl, rfl, f_11, f_12⟩ := hQ
              have V : gW D T A s [(o, .inr (8, [.int (nI 0), .ref g1, .ref g2, .ref g3, .ref g4, .int (nI tp), .int w6, .int w7, .int w8, .int w9, .int w10, .int w11, .int w12, .int w13, .int w14, .ref g15, .int w16, .ref g17, .int w18, .int w19, .ref g20, .int w21, .ref g22, .ref g23, .ref g24, .int w25, .int w26, .int w27, .ref g28, .ref g29, .int w30, .ref g31, .ref g32, .ref g33])), (g1, .inl (T 0, 282, .inl fa))] H locs := V _ [] rfl rfl rfl (by decide +kernel) rfl
              show W p l e _ s m args below meth c H locs _ _ _ (F0 m 73 ls [.int z_10])
              obtain ⟨r_13, hr_13, er_13⟩ := f_11
              refine g_vi (y := nI r_13) er_13 ?_
              have hdn := ib_dn (a := now_) (by omega) (by omega) (by omega) (by omega) (er_13.symm.trans f_12) (by omega)
              refine lv_istore_n (lv' := [(2, .int (nI r_13)), (3, .int x28_3), (0, .ref o), (1, .int (nI j_1))]) hx hb dX8_cold_73 rfl hl (by decide) rfl (fun ls hl => ?_)
              refine lv_iinc (v := (x28_3 + 1)) (lv' := [(3, .int (x28_3 + 1)), (2, .int (nI r_13)), (0, .ref o), (1, .int (nI j_1))]) hx hb dX8_cold_74 hl (k := 1) rfl rfl (by decide) rfl (fun ls hl => ?_)
              refine lv_goto (tgt := 28) hx hb dX8_cold_77 (by decide) ?_
              exact ih_28 r_13 (x28_3 + 1) (by omega) (by omega) _ _ _ V (lv_sub hl [0, 1, 2, 3] rfl)
            · skip
              rw [show (0 : Int32) = nI 0 from rfl] at c_9
              have c_9 := b_eq (by omega) (by omega) c_9
              refine lv_iconst (v := (-1)) hx hb dX8_cold_57 (by decide +kernel) ?_
              exact g_iret (Qr := (q_m_cold T n o i w0 g1 g2 g3 g4 tp w6 w7 w8 w9 w10 w11 w12 w13 w14 g15 w16 g17 w18 w19 g20 w21 g22 g23 g24 w25 w26 w27 g28 g29 w30 g31 g32 g33 fa)) hC V ⟨(Nat.le_of_ble_eq_true rfl), (Nat.le_of_ble_eq_true rfl)⟩ ⟨(-1), rfl, rfl⟩ dX8_cold_58
    exact L_5 _ j_4 (nI 0) (by omega) (Nat.lt_succ_self _) _ _ _ V (lv_sub hl [0, 1, 2, 3] rfl)
  · have V : gW D T A s [(o, .inr (8, [.int (nI 0), .ref g1, .ref g2, .ref g3, .ref g4, .int (nI tp), .int w6, .int w7, .int w8, .int w9, .int w10, .int w11, .int w12, .int w13, .int w14, .ref g15, .int w16, .ref g17, .int w18, .int w19, .ref g20, .int w21, .ref g22, .ref g23, .ref g24, .int w25, .int w26, .int w27, .ref g28, .ref g29, .int w30, .ref g31, .ref g32, .ref g33])), (g1, .inl (T 0, 282, .inl fa))] H locs := V
    show W p l e _ s m args below meth c H locs _ _ _ (F0 m 10 ls [.int (nI 0)])
    refine lv_if_ne (tgt := 16) hx hb dX8_cold_10 (by decide) (fun c => absurd (show (nI 0) = 0 by decide +kernel) c) (fun _ => ?_)
    refine lv_bipush (v := (-2)) hx hb dX8_cold_13 (by decide +kernel) ?_
    exact g_iret (Qr := (q_m_cold T n o i w0 g1 g2 g3 g4 tp w6 w7 w8 w9 w10 w11 w12 w13 w14 g15 w16 g17 w18 w19 g20 w21 g22 g23 g24 w25 w26 w27 g28 g29 w30 g31 g32 g33 fa)) hC V ⟨(Nat.le_of_ble_eq_true rfl), (Nat.le_of_ble_eq_true rfl)⟩ ⟨(-2), rfl, rfl⟩ dX8_cold_15
