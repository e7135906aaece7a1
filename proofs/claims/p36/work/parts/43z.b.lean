def q_m_warm_f (T : Nat → ClassId) (n : Nat) (o : Nat) (i : Int32) (ht : Int32) (w0 : Int32) (g1 : Nat) (g2 : Nat) (g3 : Nat) (g4 : Nat) (tp : Nat) (w6 : Int32) (w7 : Int32) (w8 : Int32) (w9 : Int32) (w10 : Int32) (w11 : Int32) (w12 : Int32) (w13 : Int32) (w14 : Int32) (g15 : Nat) (w16 : Int32) (g17 : Nat) (w18 : Int32) (w19 : Int32) (g20 : Nat) (w21 : Int32) (g22 : Nat) (g23 : Nat) (g24 : Nat) (w25 : Int32) (w26 : Int32) (w27 : Int32) (g28 : Nat) (g29 : Nat) (w30 : Int32) (g31 : Nat) (g32 : Nat) (g33 : Nat) (fa : Nat → Int32) : Option Value → va_W → Prop := fun rr ww => (∃ (z : Int32), rr = some (.int z) ∧ ww = [(o, .inr (8, [.int (nI 0), .ref g1, .ref g2, .ref g3, .ref g4, .int (nI tp), .int w6, .int w7, .int w8, .int w9, .int w10, .int w11, .int w12, .int w13, .int w14, .ref g15, .int w16, .ref g17, .int w18, .int w19, .ref g20, .int w21, .ref g22, .ref g23, .ref g24, .int w25, .int w26, .int w27, .ref g28, .ref g29, .int w30, .ref g31, .ref g32, .ref g33])), (g1, .inl (T 0, 282, .inl fa))] ∧ z = wmA n fa i ht)
set_option maxHeartbeats 4000000 in
set_option maxRecDepth 100000 in
theorem m_warm_f (l : Launch) (D : va_G) (T : Nat → ClassId) (n : Nat) (o : Nat) (i : Int32) (ht : Int32) (w0 : Int32) (g1 : Nat) (g2 : Nat) (g3 : Nat) (g4 : Nat) (tp : Nat) (w6 : Int32) (w7 : Int32) (w8 : Int32) (w9 : Int32) (w10 : Int32) (w11 : Int32) (w12 : Int32) (w13 : Int32) (w14 : Int32) (g15 : Nat) (w16 : Int32) (g17 : Nat) (w18 : Int32) (w19 : Int32) (g20 : Nat) (w21 : Int32) (g22 : Nat) (g23 : Nat) (g24 : Nat) (w25 : Int32) (w26 : Int32) (w27 : Int32) (g28 : Nat) (g29 : Nat) (w30 : Int32) (g31 : Nat) (g32 : Nat) (g33 : Nat) (fa : Nat → Int32) (h_a : MI n fa) : Ct l yX8_warm cX8_warm 6 (some .int) 2 0 0 D T [.ref o, .int i, .int ht] [(o, .inr (8, [.int w0, .ref g1, .ref g2, .ref g3, .ref g4, .int (nI tp), .int w6, .int w7, .int w8, .int w9, .int w10, .int w11, .int w12, .int w13, .int w14, .ref g15, .int w16, .ref g17, .int w18, .int w19, .ref g20, .int w21, .ref g22, .ref g23, .ref g24, .int w25, .int w26, .int w27, .ref g28, .ref g29, .int w30, .ref g31, .ref g32, .ref g33])), (g1, .inl (T 0, 282, .inl fa))] (q_m_warm_f T n o i ht w0 g1 g2 g3 g4 tp w6 w7 w8 w9 w10 w11 w12 w13 w14 g15 w16 g17 w18 w19 g20 w21 g22 g23 g24 w25 w26 w27 g28 g29 w30 g31 g32 g33 fa) := by
  refine Ct.of (cc := cX8_warm) (maxL := 6) (ret := (some .int)) (by decide) (Nat.le_of_ble_eq_true rfl) ?_
  intro p e s m args below meth c A ls hC hnm V hl
  obtain ⟨hx, hb, hr, hml, hown, hts, hlocks⟩ := id hC
  generalize hH : s.heap = H at V ⊢
  clear hH
  have hl : lv_has ls 6 [(0, .ref o), (1, .int i), (2, .int ht)] := hl
  generalize hlo : ([] : List Loc) = locs at V ⊢
  clear hlo
  have ms0 := ms_rf h_a
  have hn10 := h_a.1
  refine lv_aload_n hx hb dX8_warm_0 rfl (lv_at hl 0 rfl) ?_
  refine lv_iconst (v := (nI 0)) hx hb dX8_warm_1 (by decide +kernel) ?_
  refine g_put hC V (ci := 8) uwX8 tyX8 tyX8_ok nmX8 0 rfl rfl 0 (by decide) w_912 rfl rfl rfl rfl (Nat.le_of_ble_eq_true rfl) (ws' := [(o, .inr (8, [.int (nI 0), .ref g1, .ref g2, .ref g3, .ref g4, .int (nI tp), .int w6, .int w7, .int w8, .int w9, .int w10, .int w11, .int w12, .int w13, .int w14, .ref g15, .int w16, .ref g17, .int w18, .int w19, .ref g20, .int w21, .ref g22, .ref g23, .ref g24, .int w25, .int w26, .int w27, .ref g28, .ref g29, .int w30, .ref g31, .ref g32, .ref g33])), (g1, .inl (T 0, 282, .inl fa))]) rfl dX8_warm_2 (fun H locs V => ?_)
  refine lv_aload_n hx hb dX8_warm_5 rfl (lv_at hl 0 rfl) ?_
  refine lv_iload_n hx hb dX8_warm_6 rfl (lv_at hl 1 rfl) ?_
  refine g_callV (wr := []) (nA := 1) hC V hl.1 (m_isSmith_f l D T n o i (nI 0) g1 g2 g3 g4 tp w6 w7 w8 w9 w10 w11 w12 w13 w14 g15 w16 g17 w18 w19 g20 w21 g22 g23 g24 w25 w26 w27 g28 g29 w30 g31 g32 g33 fa h_a) w_1083 w_1085 w_s46 w_9 w_1086 (by decide +kernel) rfl ⟨(Nat.le_of_ble_eq_true rfl), (Nat.le_of_ble_eq_true rfl)⟩ 0 (ci := 8) rfl rfl [0, 1] [] rfl rfl rfl rfl (by decide) (Nat.le_of_ble_eq_true rfl) dX8_warm_7 ⟨(Nat.le_of_ble_eq_true rfl), (Nat.le_of_ble_eq_true rfl)⟩ rfl (fun r w1 H locs hQ V => ?_)
  rcases hQ with ⟨j_1, rfl, rfl, f_2, f_3⟩ | ⟨rfl, rfl, f_4⟩
  · have V : gW D T A s [(o, .inr (8, [.int (nI 0), .ref g1, .ref g2, .ref g3, .ref g4, .int (nI tp), .int w6, .int w7, .int w8, .int w9, .int w10, .int w11, .int w12, .int w13, .int w14, .ref g15, .int w16, .ref g17, .int w18, .int w19, .ref g20, .int w21, .ref g22, .ref g23, .ref g24, .int w25, .int w26, .int w27, .ref g28, .ref g29, .int w30, .ref g31, .ref g32, .ref g33])), (g1, .inl (T 0, 282, .inl fa))] H locs := V
    show W p l e _ s m args below meth c H locs _ _ _ (F0 m 10 ls [.int (nI 1)])
    rw [f_2] at hl
    refine lv_if_ne (tgt := 16) hx hb dX8_warm_10 (by decide) (fun _ => ?_) (fun c => absurd (show (nI 1) = 0 from c) (by decide +kernel))
    refine lv_iload_n hx hb dX8_warm_16 rfl (lv_at hl 2 rfl) ?_
    refine lv_i2l (v := ht.toInt64) hx hb dX8_warm_17 rfl ?_
    refine lv_lconst (v := (nI 0).toInt64) hx hb dX8_warm_18 (by decide +kernel) ?_
    refine lv_ldc2 (v := (200)) hx hb hown (hts _ w_1178) dX8_warm_19 ?_
    refine g_vl (y := (nI 200).toInt64) (by decide +kernel) ?_
    refine g_callSU (nA := 3) hC V hl.1 (m_within l D T ht (nI 0) (nI 200)) w_1023 w_1024 w_9 w_1025 (by decide +kernel) rfl ⟨(Nat.le_of_ble_eq_true rfl), (Nat.le_of_ble_eq_true rfl)⟩ [] rfl rfl (Nat.le_of_ble_eq_true rfl) dX8_warm_22 ⟨(Nat.le_of_ble_eq_true rfl), (Nat.le_of_ble_eq_true rfl)⟩ rfl (fun r w1 H locs hQ V => ?_)
    rcases hQ with ⟨rfl, rfl, f_5, f_6⟩ | ⟨rfl, rfl, f_7⟩
    · have V : gW D T A s [(o, .inr (8, [.int (nI 0), .ref g1, .ref g2, .ref g3, .ref g4, .int (nI tp), .int w6, .int w7, .int w8, .int w9, .int w10, .int w11, .int w12, .int w13, .int w14, .ref g15, .int w16, .ref g17, .int w18, .int w19, .ref g20, .int w21, .ref g22, .ref g23, .ref g24, .int w25, .int w26, .int w27, .ref g28, .ref g29, .int w30, .ref g31, .ref g32, .ref g33])), (g1, .inl (T 0, 282, .inl fa))] H locs := V _ [] rfl rfl rfl (by decide +kernel) rfl
      show W p l e _ s m args below meth c H locs _ _ _ (F0 m 25 ls [.int (nI 1)])
      obtain ⟨jh, hjh1, hjh2, ejh⟩ := g_rng (by first | decide | omega) (by first | decide | omega) f_5 f_6
      rw [ejh] at hl
      refine lv_if_ne (tgt := 31) hx hb dX8_warm_25 (by decide) (fun _ => ?_) (fun c => absurd (show (nI 1) = 0 from c) (by decide +kernel))
      refine lv_aload_n hx hb dX8_warm_31 rfl (lv_at hl 0 rfl) ?_
      refine g_get hC V (ci := 8) uwX8 0 rfl rfl 1 (by decide) w_913 rfl rfl dX8_warm_32 ?_
      refine lv_bipush (v := (nI 14)) hx hb dX8_warm_35 (by decide +kernel) ?_
      refine lv_iload_n hx hb dX8_warm_37 rfl (lv_at hl 1 rfl) ?_
      refine lv_iadd hx hb dX8_warm_38 ?_
      refine g_vi (y := (nI (14 + j_1))) (nI_add _ _) ?_
      obtain ⟨j_8, hj_8, ej_8⟩ := bd_ex (mi_cool h_a (i := j_1) (by omega))
      refine g_iald hC V 1 rfl (vp_in_nI (by omega) (by omega)) (v := (nI j_8)) (by rw [nI_clamp (by omega)]; exact ej_8) dX8_warm_39 ?_
      refine lv_ineg hx hb dX8_warm_40 ?_
      obtain ⟨j_cool, hj_cool, ej_cool⟩ : ∃ x, x < 31 ∧ x = j_8 := ⟨_, by omega, rfl⟩
      rw [← ej_cool]
      have ecl : fa (14 + j_1) = nI j_cool := by rw [ej_cool]; exact ej_8
      refine lv_istore_n (lv' := [(3, .int (-(nI j_cool))), (0, .ref o), (1, .int (nI j_1)), (2, .int (nI jh))]) hx hb dX8_warm_41 rfl hl (by decide) rfl (fun ls hl => ?_)
      refine lv_iconst (v := (nI 0)) hx hb dX8_warm_42 (by decide +kernel) ?_
      refine lv_istore (lv' := [(4, .int (nI 0)), (3, .int (-(nI j_cool))), (0, .ref o), (1, .int (nI j_1)), (2, .int (nI jh))]) hx hb dX8_warm_43 hl (by decide) rfl (fun ls hl => ?_)
      have L_9 : ∀ (fu : Nat) (k45 : Nat) (cm : Int32), k45 ≤ n → (∃ p, p ≤ 60 * k45 ∧ cm = nI p - nI j_cool) → cm = -(nI j_cool) + bsA fa j_1 k45 → n - k45 < fu → ∀ (H : Heap) (locs : List Loc) (ls : Array Slot), gW D T A s [(o, .inr (8, [.int (nI 0), .ref g1, .ref g2, .ref g3, .ref g4, .int (nI tp), .int w6, .int w7, .int w8, .int w9, .int w10, .int w11, .int w12, .int w13, .int w14, .ref g15, .int w16, .ref g17, .int w18, .int w19, .ref g20, .int w21, .ref g22, .ref g23, .ref g24, .int w25, .int w26, .int w27, .ref g28, .ref g29, .int w30, .ref g31, .ref g32, .ref g33])), (g1, .inl (T 0, 282, .inl fa))] H locs → lv_has ls 6 [(4, .int (nI k45)), (3, .int cm), (0, .ref o), (1, .int (nI j_1)), (2, .int (nI jh))] → W p l e (rmD 2 0 0) s m args below meth c H locs 0 0 (MQ below (gQ D A (q_m_warm_f T n o i ht w0 g1 g2 g3 g4 tp w6 w7 w8 w9 w10 w11 w12 w13 w14 g15 w16 g17 w18 w19 g20 w21 g22 g23 g24 w25 w26 w27 g28 g29 w30 g31 g32 g33 fa)) args s 0 0 A) (F0 m 45 ls []) := by
        intro fu_45
        induction fu_45 with
        | zero => intro k45 cm hk45 hcm hcb hmu; exact absurd hmu (Nat.not_lt_zero _)
        | succ fu_45 ih_45 =>
          intro k45 cm hk45 hcm hcb hmu_45 H locs ls V hl
          refine lv_iload hx hb dX8_warm_45 (lv_at hl 0 rfl) ?_
          refine lv_aload_n hx hb dX8_warm_47 rfl (lv_at hl 2 rfl) ?_
          refine g_get hC V (ci := 8) uwX8 0 rfl rfl 1 (by decide) w_913 rfl rfl dX8_warm_48 ?_
          refine lv_iconst (v := (nI 0)) hx hb dX8_warm_51 (by decide +kernel) ?_
          refine g_iald hC V 1 rfl (vp_in_nI (by decide) (by decide)) (v := (nI n)) (by rw [nI_clamp (by decide)]; first | rfl | exact h_a.2.1) dX8_warm_52 ?_
          refine lv_icmp_ge (tgt := 92) hx hb dX8_warm_53 (by decide) (fun c_10 => ?_) (fun c_10 => ?_)
          · skip
            have c_10 := b_le (by omega) (by omega) c_10
            have hcm10 := wm_n hcm (by omega)
            have hcg : cm = gnW n fa j_1 := gn_eq (by rw [hcb]; congr 2; omega) ecl
            refine lv_aload_n hx hb dX8_warm_92 rfl (lv_at hl 2 rfl) ?_
            refine g_get hC V (ci := 8) uwX8 0 rfl rfl 1 (by decide) w_913 rfl rfl dX8_warm_93 ?_
            refine lv_bipush (v := (nI 24)) hx hb dX8_warm_96 (by decide +kernel) ?_
            refine lv_iload_n hx hb dX8_warm_98 rfl (lv_at hl 3 rfl) ?_
            refine lv_iadd hx hb dX8_warm_99 ?_
            refine g_vi (y := (nI (24 + j_1))) (nI_add _ _) ?_
            obtain ⟨j_11, hj_11, ej_11⟩ := bd_ex (mi_heat h_a (i := j_1) (by omega))
            refine g_iald hC V 1 rfl (vp_in_nI (by omega) (by omega)) (v := (nI j_11)) (by rw [nI_clamp (by omega)]; exact ej_11) dX8_warm_100 ?_
            refine lv_istore (lv' := [(4, .int (nI j_11)), (3, .int cm), (0, .ref o), (1, .int (nI j_1)), (2, .int (nI jh))]) hx hb dX8_warm_101 hl (by decide) rfl (fun ls hl => ?_)
            refine lv_iconst (v := (nI 0)) hx hb dX8_warm_103 (by decide +kernel) ?_
            refine lv_istore (lv' := [(5, .int (nI 0)), (4, .int (nI j_11)), (3, .int cm), (0, .ref o), (1, .int (nI j_1)), (2, .int (nI jh))]) hx hb dX8_warm_104 hl (by decide) rfl (fun ls hl => ?_)
            have L_12 : ∀ (fu : Nat) (now_ : Nat) (kw : Nat), now_ ≤ 255 → WMI j_11 jh (gnW n fa j_1).toNatClampNeg kw now_ → 256 - now_ < fu → ∀ (H : Heap) (locs : List Loc) (ls : Array Slot), gW D T A s [(o, .inr (8, [.int (nI 0), .ref g1, .ref g2, .ref g3, .ref g4, .int (nI tp), .int w6, .int w7, .int w8, .int w9, .int w10, .int w11, .int w12, .int w13, .int w14, .ref g15, .int w16, .ref g17, .int w18, .int w19, .ref g20, .int w21, .ref g22, .ref g23, .ref g24, .int w25, .int w26, .int w27, .ref g28, .ref g29, .int w30, .ref g31, .ref g32, .ref g33])), (g1, .inl (T 0, 282, .inl fa))] H locs → lv_has ls 6 [(5, .int (nI kw)), (4, .int (nI now_)), (3, .int cm), (0, .ref o), (1, .int (nI j_1)), (2, .int (nI jh))] → W p l e (rmD 2 0 0) s m args below meth c H locs 0 0 (MQ below (gQ D A (q_m_warm_f T n o i ht w0 g1 g2 g3 g4 tp w6 w7 w8 w9 w10 w11 w12 w13 w14 g15 w16 g17 w18 w19 g20 w21 g22 g23 g24 w25 w26 w27 g28 g29 w30 g31 g32 g33 fa)) args s 0 0 A) (F0 m 106 ls []) := by
              intro fu_106
              induction fu_106 with
              | zero => intro now_ kw hnow hW hmu; exact absurd hmu (Nat.not_lt_zero _)
              | succ fu_106 ih_106 =>
                intro now_ kw hnow hW hmu_106 H locs ls V hl
                refine lv_iload hx hb dX8_warm_106 (lv_at hl 1 rfl) ?_
                refine lv_iload_n hx hb dX8_warm_108 rfl (lv_at hl 5 rfl) ?_
                refine lv_icmp_ge (tgt := 133) hx hb dX8_warm_109 (by decide) (fun c_13 => ?_) (fun c_13 => ?_)
                · skip
                  have c_13 := b_le (by omega) (by omega) c_13
                  refine lv_iload hx hb dX8_warm_133 (lv_at hl 0 rfl) ?_
                  exact g_iret (Qr := (q_m_warm_f T n o i ht w0 g1 g2 g3 g4 tp w6 w7 w8 w9 w10 w11 w12 w13 w14 g15 w16 g17 w18 w19 g20 w21 g22 g23 g24 w25 w26 w27 g28 g29 w30 g31 g32 g33 fa)) hC V ⟨(Nat.le_of_ble_eq_true rfl), (Nat.le_of_ble_eq_true rfl)⟩ ⟨(nI kw), rfl, rfl, (wm_y (f := fa) hn10 f_2 f_3 f_5 f_6 ejh (by omega) ej_11 (by omega) (wi_e hW (by omega)))⟩ dX8_warm_135
                · skip
                  have c_13 := b_nle (by omega) (by omega) c_13
                  refine lv_iload_n hx hb dX8_warm_112 rfl (lv_at hl 2 rfl) ?_
                  refine lv_if_gt (tgt := 118) hx hb dX8_warm_113 (by decide) (fun c_14 => ?_) (fun c_14 => ?_)
                  · skip
                    obtain ⟨q_, hq1, hq2, eq_⟩ := wm_1 hcm10 (by omega) c_14
                    have hQ : (gnW n fa j_1).toNatClampNeg = q_ := by rw [← hcg, eq_, nI_clamp (by omega)]
                    refine lv_iload hx hb dX8_warm_118 (lv_at hl 1 rfl) ?_
                    refine lv_iload_n hx hb dX8_warm_120 rfl (lv_at hl 2 rfl) ?_
                    refine lv_iadd hx hb dX8_warm_121 ?_
                    refine g_callSU (nA := 1) hC V hl.1 (m_inBounds l D T ((nI now_) + cm)) w_1133 w_1134 w_9 w_1135 (by decide +kernel) rfl ⟨(Nat.le_of_ble_eq_true rfl), (Nat.le_of_ble_eq_true rfl)⟩ [] rfl rfl (Nat.le_of_ble_eq_true rfl) dX8_warm_122 ⟨(Nat.le_of_ble_eq_true rfl), (Nat.le_of_ble_eq_true rfl)⟩ rfl (fun r w1 H locs hQ V => ?_)
                    obtain ⟨z_15, rfl, rfl, f_16, f_17⟩ := hQ
                    have V : gW D T A s [(o, .inr (8, [.int (nI 0), .ref g1, .ref g2, .ref g3, .ref g4, .int (nI tp), .int w6, .int w7, .int w8, .int w9, .int w10, .int w11, .int w12, .int w13, .int w14, .ref g15, .int w16, .ref g17, .int w18, .int w19, .ref g20, .int w21, .ref g22, .ref g23, .ref g24, .int w25, .int w26, .int w27, .ref g28, .ref g29, .int w30, .ref g31, .ref g32, .ref g33])), (g1, .inl (T 0, 282, .inl fa))] H locs := V _ [] rfl rfl rfl (by decide +kernel) rfl
                    show W p l e _ s m args below meth c H locs _ _ _ (F0 m 125 ls [.int z_15])
                    obtain ⟨r_18, hr_18, er_18⟩ := f_16
                    refine g_vi (y := nI r_18) er_18 ?_
                    have hib : nI r_18 = ibf (nI now_ + nI q_) := (er_18.symm.trans f_17).trans (by rw [eq_])
                    have hup := ib_up (a := now_) (by omega) hq1 hq2 hib (by omega)
                    refine lv_istore (lv' := [(4, .int (nI r_18)), (5, .int (nI kw)), (3, .int cm), (0, .ref o), (1, .int (nI j_1)), (2, .int (nI jh))]) hx hb dX8_warm_125 hl (by decide) rfl (fun ls hl => ?_)
                    refine lv_iinc (v := (nI (kw + 1))) (lv' := [(5, .int (nI (kw + 1))), (4, .int (nI r_18)), (3, .int cm), (0, .ref o), (1, .int (nI j_1)), (2, .int (nI jh))]) hx hb dX8_warm_127 hl (k := 1) rfl (nI_1 _) (by decide) rfl (fun ls hl => ?_)
                    refine lv_goto (tgt := 106) hx hb dX8_warm_130 (by decide) ?_
                    exact ih_106 r_18 (kw + 1) (by omega) (by rw [hQ] at hW ⊢; exact wi_s hW (by omega) (by omega) hq1 hq2 hib (by omega)) (by omega) _ _ _ V (lv_sub hl [0, 1, 2, 3, 4, 5] rfl)
                  · skip
                    have hQ0 := gn_0 (x := gnW n fa j_1) (by rw [← hcg]; exact c_14)
                    refine lv_iconst (v := (-1)) hx hb dX8_warm_116 (by decide +kernel) ?_
                    exact g_iret (Qr := (q_m_warm_f T n o i ht w0 g1 g2 g3 g4 tp w6 w7 w8 w9 w10 w11 w12 w13 w14 g15 w16 g17 w18 w19 g20 w21 g22 g23 g24 w25 w26 w27 g28 g29 w30 g31 g32 g33 fa)) hC V ⟨(Nat.le_of_ble_eq_true rfl), (Nat.le_of_ble_eq_true rfl)⟩ ⟨(-1), rfl, rfl, (wm_y (f := fa) hn10 f_2 f_3 f_5 f_6 ejh (by omega) ej_11 (by omega) (wi_n hW (by omega) hQ0))⟩ dX8_warm_117
            exact L_12 _ j_11 0 (by omega) wi_0 (Nat.lt_succ_self _) _ _ _ V (lv_sub hl [0, 1, 2, 3, 4, 5] rfl)
          · skip
            have c_10 := b_nle (by omega) (by omega) c_10
            refine lv_iload_n hx hb dX8_warm_56 rfl (lv_at hl 1 rfl) ?_
            refine lv_aload_n hx hb dX8_warm_57 rfl (lv_at hl 2 rfl) ?_
            refine g_get hC V (ci := 8) uwX8 0 rfl rfl 1 (by decide) w_913 rfl rfl dX8_warm_58 ?_
            refine lv_bipush (v := (nI 84)) hx hb dX8_warm_61 (by decide +kernel) ?_
            refine lv_iload hx hb dX8_warm_63 (lv_at hl 0 rfl) ?_
            refine lv_iadd hx hb dX8_warm_65 ?_
            refine g_vi (y := (nI (84 + k45))) (nI_add _ _) ?_
            obtain ⟨j_19, hj_19, ej_19⟩ := bd_ex (mi_to h_a (i := k45) (by omega))
            refine g_iald hC V 1 rfl (vp_in_nI (by omega) (by omega)) (v := (nI j_19)) (by rw [nI_clamp (by omega)]; exact ej_19) dX8_warm_66 ?_
            refine lv_iload_n hx hb dX8_warm_67 rfl (lv_at hl 3 rfl) ?_
            refine lv_icmp_ne (tgt := 83) hx hb dX8_warm_68 (by decide) (fun c_20 => ?_) (fun c_20 => ?_)
            · skip
              have c_20 := b_ne (by omega) (by omega) c_20
              refine lv_iconst (v := (nI 0)) hx hb dX8_warm_83 (by decide +kernel) ?_
              refine lv_iadd hx hb dX8_warm_84 ?_
              refine lv_istore_n (lv' := [(3, .int (cm + (nI 0))), (4, .int (nI k45)), (0, .ref o), (1, .int (nI j_1)), (2, .int (nI jh))]) hx hb dX8_warm_85 rfl hl (by decide) rfl (fun ls hl => ?_)
              refine lv_iinc (v := (nI (k45 + 1))) (lv' := [(4, .int (nI (k45 + 1))), (3, .int (cm + (nI 0))), (0, .ref o), (1, .int (nI j_1)), (2, .int (nI jh))]) hx hb dX8_warm_86 hl (k := 1) rfl (nI_1 _) (by decide) rfl (fun ls hl => ?_)
              refine lv_goto (tgt := 45) hx hb dX8_warm_89 (by decide) ?_
              exact ih_45 (k45 + 1) (cm + (nI 0)) (by omega) (by first | exact wm_s hcm (by assumption) | exact wm_s0 hcm) (by rw [hcb]; exact ba_n (fun q => c_20 (b_eq (by omega) (by omega) (ej_19.symm.trans q)))) (by omega) _ _ _ V (lv_sub hl [0, 1, 2, 3, 4] rfl)
            · skip
              have c_20 := b_eq (by omega) (by omega) c_20
              refine lv_aload_n hx hb dX8_warm_71 rfl (lv_at hl 2 rfl) ?_
              refine g_get hC V (ci := 8) uwX8 0 rfl rfl 1 (by decide) w_913 rfl rfl dX8_warm_72 ?_
              refine lv_iconst (v := (nI 4)) hx hb dX8_warm_75 (by decide +kernel) ?_
              refine lv_iload hx hb dX8_warm_76 (lv_at hl 0 rfl) ?_
              refine lv_iadd hx hb dX8_warm_78 ?_
              refine g_vi (y := (nI (4 + k45))) (nI_add _ _) ?_
              obtain ⟨j_21, hj_21, ej_21⟩ := bd_ex (mi_blast h_a (i := k45) (by omega))
              refine g_iald hC V 1 rfl (vp_in_nI (by omega) (by omega)) (v := (nI j_21)) (by rw [nI_clamp (by omega)]; exact ej_21) dX8_warm_79 ?_
              refine lv_goto (tgt := 84) hx hb dX8_warm_80 (by decide) ?_
              refine lv_iadd hx hb dX8_warm_84 ?_
              refine lv_istore_n (lv' := [(3, .int (cm + (nI j_21))), (4, .int (nI k45)), (0, .ref o), (1, .int (nI j_1)), (2, .int (nI jh))]) hx hb dX8_warm_85 rfl hl (by decide) rfl (fun ls hl => ?_)
              refine lv_iinc (v := (nI (k45 + 1))) (lv' := [(4, .int (nI (k45 + 1))), (3, .int (cm + (nI j_21))), (0, .ref o), (1, .int (nI j_1)), (2, .int (nI jh))]) hx hb dX8_warm_86 hl (k := 1) rfl (nI_1 _) (by decide) rfl (fun ls hl => ?_)
              refine lv_goto (tgt := 45) hx hb dX8_warm_89 (by decide) ?_
              exact ih_45 (k45 + 1) (cm + (nI j_21)) (by omega) (by first | exact wm_s hcm (by assumption) | exact wm_s0 hcm) (by rw [hcb]; exact (by rw [← ej_21]; exact ba_y (ej_19.trans (by rw [c_20])))) (by omega) _ _ _ V (lv_sub hl [0, 1, 2, 3, 4] rfl)
      exact L_9 _ 0 (-(nI j_cool)) (by omega) wm_0 (add_n0 _) (Nat.lt_succ_self _) _ _ _ V (lv_sub hl [0, 1, 2, 3, 4] rfl)
    · have V : gW D T A s [(o, .inr (8, [.int (nI 0), .ref g1, .ref g2, .ref g3, .ref g4, .int (nI tp), .int w6, .int w7, .int w8, .int w9, .int w10, .int w11, .int w12, .int w13, .int w14, .ref g15, .int w16, .ref g17, .int w18, .int w19, .ref g20, .int w21, .ref g22, .ref g23, .ref g24, .int w25, .int w26, .int w27, .ref g28, .ref g29, .int w30, .ref g31, .ref g32, .ref g33])), (g1, .inl (T 0, 282, .inl fa))] H locs := V _ [] rfl rfl rfl (by decide +kernel) rfl
      show W p l e _ s m args below meth c H locs _ _ _ (F0 m 25 ls [.int (nI 0)])
      refine lv_if_ne (tgt := 31) hx hb dX8_warm_25 (by decide) (fun c => absurd (show (nI 0) = 0 by decide +kernel) c) (fun _ => ?_)
      refine lv_bipush (v := (-3)) hx hb dX8_warm_28 (by decide +kernel) ?_
      exact g_iret (Qr := (q_m_warm_f T n o i ht w0 g1 g2 g3 g4 tp w6 w7 w8 w9 w10 w11 w12 w13 w14 g15 w16 g17 w18 w19 g20 w21 g22 g23 g24 w25 w26 w27 g28 g29 w30 g31 g32 g33 fa)) hC V ⟨(Nat.le_of_ble_eq_true rfl), (Nat.le_of_ble_eq_true rfl)⟩ ⟨(-3), rfl, rfl, (wm_3 (f := fa) hn10 f_2 f_3 f_7)⟩ dX8_warm_30
  · have V : gW D T A s [(o, .inr (8, [.int (nI 0), .ref g1, .ref g2, .ref g3, .ref g4, .int (nI tp), .int w6, .int w7, .int w8, .int w9, .int w10, .int w11, .int w12, .int w13, .int w14, .ref g15, .int w16, .ref g17, .int w18, .int w19, .ref g20, .int w21, .ref g22, .ref g23, .ref g24, .int w25, .int w26, .int w27, .ref g28, .ref g29, .int w30, .ref g31, .ref g32, .ref g33])), (g1, .inl (T 0, 282, .inl fa))] H locs := V
    show W p l e _ s m args below meth c H locs _ _ _ (F0 m 10 ls [.int (nI 0)])
    refine lv_if_ne (tgt := 16) hx hb dX8_warm_10 (by decide) (fun c => absurd (show (nI 0) = 0 by decide +kernel) c) (fun _ => ?_)
    refine lv_bipush (v := (-2)) hx hb dX8_warm_13 (by decide +kernel) ?_
    exact g_iret (Qr := (q_m_warm_f T n o i ht w0 g1 g2 g3 g4 tp w6 w7 w8 w9 w10 w11 w12 w13 w14 g15 w16 g17 w18 w19 g20 w21 g22 g23 g24 w25 w26 w27 g28 g29 w30 g31 g32 g33 fa)) hC V ⟨(Nat.le_of_ble_eq_true rfl), (Nat.le_of_ble_eq_true rfl)⟩ ⟨(-2), rfl, rfl, (wm_o f_4)⟩ dX8_warm_15
