def q_m_takesRhythm_f (T : Nat → ClassId) (n : Nat) (o : Nat) (r : Nat) (le : Int32) (w0 : Int32) (g1 : Nat) (g2 : Nat) (g3 : Nat) (g4 : Nat) (tp : Nat) (w6 : Int32) (w7 : Int32) (w8 : Int32) (w9 : Int32) (w10 : Int32) (w11 : Int32) (w12 : Int32) (w13 : Int32) (w14 : Int32) (g15 : Nat) (w16 : Int32) (g17 : Nat) (w18 : Int32) (w19 : Int32) (g20 : Nat) (w21 : Int32) (g22 : Nat) (g23 : Nat) (g24 : Nat) (w25 : Int32) (w26 : Int32) (w27 : Int32) (g28 : Nat) (g29 : Nat) (w30 : Int32) (g31 : Nat) (g32 : Nat) (g33 : Nat) (fa : Nat → Int32) (fr : Nat → Int64) (fq : Nat → Int32) (fm : Nat → Int32) (fn : Nat → Int64) : Option Value → va_W → Prop := fun rr ww => (∃ (j : Nat) (gr : Nat → Int64), rr = some (.int (nI 0)) ∧ ww = [(o, .inr (8, [.int w0, .ref g1, .ref g2, .ref g3, .ref g4, .int (nI tp), .int w6, .int w7, .int w8, .int w9, .int w10, .int w11, .int w12, .int w13, .int w14, .ref g15, .int w16, .ref g17, .int w18, .int w19, .ref g20, .int w21, .ref g22, .ref g23, .ref g24, .int w25, .int w26, .int w27, .ref g28, .ref g29, .int w30, .ref g31, .ref g32, .ref g33])), (g1, .inl (T 0, 282, .inl fa)), (g20, .inl (T 1, 10, .inr (.inl gr))), (g31, .inl (T 0, 4, .inl fq)), (g32, .inl (T 0, 4, .inl fm)), (g33, .inl (T 1, 160, .inr (.inl fn)))] ∧ 1 ≤ j ∧ j ≤ 12 ∧ le = nI j ∧ nI 0 = rhW n fq fm (nI r) le ∧ (∀ i, i < n → gr i = fn (40 * r + i))) ∨ (∃ (z : Int32), rr = some (.int z) ∧ ww = [(o, .inr (8, [.int w0, .ref g1, .ref g2, .ref g3, .ref g4, .int (nI tp), .int w6, .int w7, .int w8, .int w9, .int w10, .int w11, .int w12, .int w13, .int w14, .ref g15, .int w16, .ref g17, .int w18, .int w19, .ref g20, .int w21, .ref g22, .ref g23, .ref g24, .int w25, .int w26, .int w27, .ref g28, .ref g29, .int w30, .ref g31, .ref g32, .ref g33])), (g1, .inl (T 0, 282, .inl fa)), (g20, .inl (T 1, 10, .inr (.inl fr))), (g31, .inl (T 0, 4, .inl fq)), (g32, .inl (T 0, 4, .inl fm)), (g33, .inl (T 1, 160, .inr (.inl fn)))] ∧ ¬ z = 0 ∧ z = rhW n fq fm (nI r) le)
set_option maxHeartbeats 4000000 in
set_option maxRecDepth 100000 in
theorem m_takesRhythm_f (l : Launch) (D : va_G) (T : Nat → ClassId) (n : Nat) (o : Nat) (r : Nat) (le : Int32) (w0 : Int32) (g1 : Nat) (g2 : Nat) (g3 : Nat) (g4 : Nat) (tp : Nat) (w6 : Int32) (w7 : Int32) (w8 : Int32) (w9 : Int32) (w10 : Int32) (w11 : Int32) (w12 : Int32) (w13 : Int32) (w14 : Int32) (g15 : Nat) (w16 : Int32) (g17 : Nat) (w18 : Int32) (w19 : Int32) (g20 : Nat) (w21 : Int32) (g22 : Nat) (g23 : Nat) (g24 : Nat) (w25 : Int32) (w26 : Int32) (w27 : Int32) (g28 : Nat) (g29 : Nat) (w30 : Int32) (g31 : Nat) (g32 : Nat) (g33 : Nat) (fa : Nat → Int32) (fr : Nat → Int64) (fq : Nat → Int32) (fm : Nat → Int32) (fn : Nat → Int64) (h_a : MI n fa) (h_r : r < 4) (h_rm : ∀ i, i < 4 → bd (fm i) 41) : Ct l yX8_takesRhythm cX8_takesRhythm 4 (some .int) 1 0 0 D T [.ref o, .int (nI r), .int le] [(o, .inr (8, [.int w0, .ref g1, .ref g2, .ref g3, .ref g4, .int (nI tp), .int w6, .int w7, .int w8, .int w9, .int w10, .int w11, .int w12, .int w13, .int w14, .ref g15, .int w16, .ref g17, .int w18, .int w19, .ref g20, .int w21, .ref g22, .ref g23, .ref g24, .int w25, .int w26, .int w27, .ref g28, .ref g29, .int w30, .ref g31, .ref g32, .ref g33])), (g1, .inl (T 0, 282, .inl fa)), (g20, .inl (T 1, 10, .inr (.inl fr))), (g31, .inl (T 0, 4, .inl fq)), (g32, .inl (T 0, 4, .inl fm)), (g33, .inl (T 1, 160, .inr (.inl fn)))] (q_m_takesRhythm_f T n o r le w0 g1 g2 g3 g4 tp w6 w7 w8 w9 w10 w11 w12 w13 w14 g15 w16 g17 w18 w19 g20 w21 g22 g23 g24 w25 w26 w27 g28 g29 w30 g31 g32 g33 fa fr fq fm fn) := by
  refine Ct.of (cc := cX8_takesRhythm) (maxL := 4) (ret := (some .int)) (by decide) (Nat.le_of_ble_eq_true rfl) ?_
  intro p e s m args below meth c A ls hC hnm V hl
  obtain ⟨hx, hb, hr, hml, hown, hts, hlocks⟩ := id hC
  generalize hH : s.heap = H at V ⊢
  clear hH
  have hl : lv_has ls 4 [(0, .ref o), (1, .int (nI r)), (2, .int le)] := hl
  generalize hlo : ([] : List Loc) = locs at V ⊢
  clear hlo
  have ms0 := ms_rf h_a
  have hn10 := h_a.1
  obtain ⟨mz, hmz, emz⟩ := h_rm r h_r
  refine lv_aload_n hx hb dX8_takesRhythm_0 rfl (lv_at hl 0 rfl) ?_
  refine g_get hC V (ci := 8) uwX8 0 rfl rfl 31 (by decide) w_943 rfl rfl dX8_takesRhythm_1 ?_
  refine lv_iload_n hx hb dX8_takesRhythm_4 rfl (lv_at hl 1 rfl) ?_
  refine g_iald hC V 3 rfl (vp_in_nI (by omega) (by omega)) (v := (fq r)) (congrArg _ (nI_clamp (by omega))) dX8_takesRhythm_5 ?_
  refine lv_iconst (v := (-1)) hx hb dX8_takesRhythm_6 (by decide +kernel) ?_
  refine lv_icmp_ne (tgt := 13) hx hb dX8_takesRhythm_7 (by decide) (fun c_1 => ?_) (fun c_1 => ?_)
  · skip
    have hq1 := c_1
    refine lv_aload_n hx hb dX8_takesRhythm_13 rfl (lv_at hl 0 rfl) ?_
    refine g_get hC V (ci := 8) uwX8 0 rfl rfl 32 (by decide) w_944 rfl rfl dX8_takesRhythm_14 ?_
    refine lv_iload_n hx hb dX8_takesRhythm_17 rfl (lv_at hl 1 rfl) ?_
    refine g_iald hC V 4 rfl (vp_in_nI (by omega) (by omega)) (v := (nI mz)) (by rw [nI_clamp (by omega)]; exact emz) dX8_takesRhythm_18 ?_
    refine lv_aload_n hx hb dX8_takesRhythm_19 rfl (lv_at hl 0 rfl) ?_
    refine g_get hC V (ci := 8) uwX8 0 rfl rfl 1 (by decide) w_913 rfl rfl dX8_takesRhythm_20 ?_
    refine lv_iconst (v := (nI 0)) hx hb dX8_takesRhythm_23 (by decide +kernel) ?_
    refine g_iald hC V 1 rfl (vp_in_nI (by decide) (by decide)) (v := (nI n)) (by rw [nI_clamp (by decide)]; first | rfl | exact h_a.2.1) dX8_takesRhythm_24 ?_
    refine lv_icmp_eq (tgt := 31) hx hb dX8_takesRhythm_25 (by decide) (fun c_2 => ?_) (fun c_2 => ?_)
    · skip
      have c_2 := b_eq (by omega) (by omega) c_2
      refine lv_iload_n hx hb dX8_takesRhythm_31 rfl (lv_at hl 2 rfl) ?_
      refine lv_i2l (v := le.toInt64) hx hb dX8_takesRhythm_32 rfl ?_
      refine lv_lconst (v := (nI 1).toInt64) hx hb dX8_takesRhythm_33 (by decide +kernel) ?_
      refine lv_ldc2 (v := (12)) hx hb hown (hts _ w_1228) dX8_takesRhythm_34 ?_
      refine g_vl (y := (nI 12).toInt64) (by decide +kernel) ?_
      refine g_callSU (nA := 3) hC V hl.1 (m_within l D T le (nI 1) (nI 12)) w_1023 w_1024 w_9 w_1025 (by decide +kernel) rfl ⟨(Nat.le_of_ble_eq_true rfl), (Nat.le_of_ble_eq_true rfl)⟩ [] rfl rfl (Nat.le_of_ble_eq_true rfl) dX8_takesRhythm_37 ⟨(Nat.le_of_ble_eq_true rfl), (Nat.le_of_ble_eq_true rfl)⟩ rfl (fun r w1 H locs hQ V => ?_)
      rcases hQ with ⟨rfl, rfl, f_3, f_4⟩ | ⟨rfl, rfl, f_5⟩
      · have V : gW D T A s [(o, .inr (8, [.int w0, .ref g1, .ref g2, .ref g3, .ref g4, .int (nI tp), .int w6, .int w7, .int w8, .int w9, .int w10, .int w11, .int w12, .int w13, .int w14, .ref g15, .int w16, .ref g17, .int w18, .int w19, .ref g20, .int w21, .ref g22, .ref g23, .ref g24, .int w25, .int w26, .int w27, .ref g28, .ref g29, .int w30, .ref g31, .ref g32, .ref g33])), (g1, .inl (T 0, 282, .inl fa)), (g20, .inl (T 1, 10, .inr (.inl fr))), (g31, .inl (T 0, 4, .inl fq)), (g32, .inl (T 0, 4, .inl fm)), (g33, .inl (T 1, 160, .inr (.inl fn)))] H locs := V _ [] rfl rfl rfl (by decide +kernel) rfl
        show W p l e _ s m args below meth c H locs _ _ _ (F0 m 40 ls [.int (nI 1)])
        obtain ⟨i, hi1, hi2, ei⟩ := g_rng (by first | decide | omega) (by first | decide | omega) f_3 f_4
        rw [ei] at hl
        refine lv_if_ne (tgt := 46) hx hb dX8_takesRhythm_40 (by decide) (fun _ => ?_) (fun c => absurd (show (nI 1) = 0 from c) (by decide +kernel))
        refine lv_iconst (v := (nI 0)) hx hb dX8_takesRhythm_46 (by decide +kernel) ?_
        refine lv_istore_n (lv' := [(3, .int (nI 0)), (0, .ref o), (1, .int (nI r)), (2, .int (nI i))]) hx hb dX8_takesRhythm_47 rfl hl (by decide) rfl (fun ls hl => ?_)
        have L_6 : ∀ (fu : Nat) (k48 : Nat) (gq : Nat → Int64), k48 ≤ n → (∀ i, i < k48 → gq i = fn (40 * r + i)) → n - k48 < fu → ∀ (H : Heap) (locs : List Loc) (ls : Array Slot), gW D T A s [(o, .inr (8, [.int w0, .ref g1, .ref g2, .ref g3, .ref g4, .int (nI tp), .int w6, .int w7, .int w8, .int w9, .int w10, .int w11, .int w12, .int w13, .int w14, .ref g15, .int w16, .ref g17, .int w18, .int w19, .ref g20, .int w21, .ref g22, .ref g23, .ref g24, .int w25, .int w26, .int w27, .ref g28, .ref g29, .int w30, .ref g31, .ref g32, .ref g33])), (g1, .inl (T 0, 282, .inl fa)), (g20, .inl (T 1, 10, .inr (.inl gq))), (g31, .inl (T 0, 4, .inl fq)), (g32, .inl (T 0, 4, .inl fm)), (g33, .inl (T 1, 160, .inr (.inl fn)))] H locs → lv_has ls 4 [(3, .int (nI k48)), (0, .ref o), (1, .int (nI r)), (2, .int (nI i))] → W p l e (rmD 1 0 0) s m args below meth c H locs 0 0 (MQ below (gQ D A (q_m_takesRhythm_f T n o r le w0 g1 g2 g3 g4 tp w6 w7 w8 w9 w10 w11 w12 w13 w14 g15 w16 g17 w18 w19 g20 w21 g22 g23 g24 w25 w26 w27 g28 g29 w30 g31 g32 g33 fa fr fq fm fn)) args s 0 0 A) (F0 m 48 ls []) := by
          intro fu_48
          induction fu_48 with
          | zero => intro k48 gq hk48 hgr hmu; exact absurd hmu (Nat.not_lt_zero _)
          | succ fu_48 ih_48 =>
            intro k48 gq hk48 hgr hmu_48 H locs ls V hl
            refine lv_iload_n hx hb dX8_takesRhythm_48 rfl (lv_at hl 0 rfl) ?_
            refine lv_aload_n hx hb dX8_takesRhythm_49 rfl (lv_at hl 1 rfl) ?_
            refine g_get hC V (ci := 8) uwX8 0 rfl rfl 1 (by decide) w_913 rfl rfl dX8_takesRhythm_50 ?_
            refine lv_iconst (v := (nI 0)) hx hb dX8_takesRhythm_53 (by decide +kernel) ?_
            refine g_iald hC V 1 rfl (vp_in_nI (by decide) (by decide)) (v := (nI n)) (by rw [nI_clamp (by decide)]; first | rfl | exact h_a.2.1) dX8_takesRhythm_54 ?_
            refine lv_icmp_ge (tgt := 81) hx hb dX8_takesRhythm_55 (by decide) (fun c_7 => ?_) (fun c_7 => ?_)
            · skip
              have c_7 := b_le (by omega) (by omega) c_7
              refine lv_iconst (v := (nI 0)) hx hb dX8_takesRhythm_81 (by decide +kernel) ?_
              exact g_iret (Qr := (q_m_takesRhythm_f T n o r le w0 g1 g2 g3 g4 tp w6 w7 w8 w9 w10 w11 w12 w13 w14 g15 w16 g17 w18 w19 g20 w21 g22 g23 g24 w25 w26 w27 g28 g29 w30 g31 g32 g33 fa fr fq fm fn)) hC V ⟨(Nat.le_of_ble_eq_true rfl), (Nat.le_of_ble_eq_true rfl)⟩ (.inl ⟨i, gq, rfl, rfl, hi1, hi2, ei, (rh_0 (rw_y (rr_0 rfl (by omega) hq1) rfl (by omega) emz (by omega)) f_3 f_4), (fun i hi => hgr i (by omega))⟩) dX8_takesRhythm_82
            · skip
              have c_7 := b_nle (by omega) (by omega) c_7
              refine lv_aload_n hx hb dX8_takesRhythm_58 rfl (lv_at hl 1 rfl) ?_
              refine g_get hC V (ci := 8) uwX8 0 rfl rfl 20 (by decide) w_932 rfl rfl dX8_takesRhythm_59 ?_
              refine lv_iload_n hx hb dX8_takesRhythm_62 rfl (lv_at hl 0 rfl) ?_
              refine lv_aload_n hx hb dX8_takesRhythm_63 rfl (lv_at hl 1 rfl) ?_
              refine g_get hC V (ci := 8) uwX8 0 rfl rfl 33 (by decide) w_945 rfl rfl dX8_takesRhythm_64 ?_
              refine lv_bipush (v := (nI 40)) hx hb dX8_takesRhythm_67 (by decide +kernel) ?_
              refine lv_iload_n hx hb dX8_takesRhythm_69 rfl (lv_at hl 2 rfl) ?_
              refine lv_imul hx hb dX8_takesRhythm_70 ?_
              refine g_vi (y := (nI (40 * r))) (pk_mul _ _) ?_
              refine lv_iload_n hx hb dX8_takesRhythm_71 rfl (lv_at hl 0 rfl) ?_
              refine lv_iadd hx hb dX8_takesRhythm_72 ?_
              refine g_vi (y := (nI ((40 * r) + k48))) (nI_add _ _) ?_
              refine g_lald hC V 5 rfl (vp_in_nI (by omega) (by omega)) (v := (fn ((40 * r) + k48))) (congrArg _ (nI_clamp (by omega))) dX8_takesRhythm_73 ?_
              refine g_last hC V 2 rfl (vp_in_nI (by omega) (by omega)) (f' := (vp_updL gq k48 (fn ((40 * r) + k48)))) (by rw [nI_clamp (by omega)]) (ws' := [(o, .inr (8, [.int w0, .ref g1, .ref g2, .ref g3, .ref g4, .int (nI tp), .int w6, .int w7, .int w8, .int w9, .int w10, .int w11, .int w12, .int w13, .int w14, .ref g15, .int w16, .ref g17, .int w18, .int w19, .ref g20, .int w21, .ref g22, .ref g23, .ref g24, .int w25, .int w26, .int w27, .ref g28, .ref g29, .int w30, .ref g31, .ref g32, .ref g33])), (g1, .inl (T 0, 282, .inl fa)), (g20, .inl (T 1, 10, .inr (.inl (vp_updL gq k48 (fn ((40 * r) + k48)))))), (g31, .inl (T 0, 4, .inl fq)), (g32, .inl (T 0, 4, .inl fm)), (g33, .inl (T 1, 160, .inr (.inl fn)))]) rfl dX8_takesRhythm_74 (fun H locs V => ?_)
              refine lv_iinc (v := (nI (k48 + 1))) (lv' := [(3, .int (nI (k48 + 1))), (0, .ref o), (1, .int (nI r)), (2, .int (nI i))]) hx hb dX8_takesRhythm_75 hl (k := 0) rfl (nI_1 _) (by decide) rfl (fun ls hl => ?_)
              refine lv_goto (tgt := 48) hx hb dX8_takesRhythm_78 (by decide) ?_
              exact ih_48 (k48 + 1) (vp_updL gq k48 (fn ((40 * r) + k48))) (by omega) (upL_one (p := fun i x => x = fn (40 * r + i)) hgr rfl) (by omega) _ _ _ V (lv_sub hl [0, 1, 2, 3] rfl)
        exact L_6 _ 0 fr (by omega) (fun i h => absurd h (Nat.not_lt_zero _)) (Nat.lt_succ_self _) _ _ _ V (lv_sub hl [0, 1, 2, 3] rfl)
      · have V : gW D T A s [(o, .inr (8, [.int w0, .ref g1, .ref g2, .ref g3, .ref g4, .int (nI tp), .int w6, .int w7, .int w8, .int w9, .int w10, .int w11, .int w12, .int w13, .int w14, .ref g15, .int w16, .ref g17, .int w18, .int w19, .ref g20, .int w21, .ref g22, .ref g23, .ref g24, .int w25, .int w26, .int w27, .ref g28, .ref g29, .int w30, .ref g31, .ref g32, .ref g33])), (g1, .inl (T 0, 282, .inl fa)), (g20, .inl (T 1, 10, .inr (.inl fr))), (g31, .inl (T 0, 4, .inl fq)), (g32, .inl (T 0, 4, .inl fm)), (g33, .inl (T 1, 160, .inr (.inl fn)))] H locs := V _ [] rfl rfl rfl (by decide +kernel) rfl
        show W p l e _ s m args below meth c H locs _ _ _ (F0 m 40 ls [.int (nI 0)])
        refine lv_if_ne (tgt := 46) hx hb dX8_takesRhythm_40 (by decide) (fun c => absurd (show (nI 0) = 0 by decide +kernel) c) (fun _ => ?_)
        refine lv_bipush (v := (-3)) hx hb dX8_takesRhythm_43 (by decide +kernel) ?_
        exact g_iret (Qr := (q_m_takesRhythm_f T n o r le w0 g1 g2 g3 g4 tp w6 w7 w8 w9 w10 w11 w12 w13 w14 g15 w16 g17 w18 w19 g20 w21 g22 g23 g24 w25 w26 w27 g28 g29 w30 g31 g32 g33 fa fr fq fm fn)) hC V ⟨(Nat.le_of_ble_eq_true rfl), (Nat.le_of_ble_eq_true rfl)⟩ (.inr ⟨(-3), rfl, rfl, (by decide +kernel), (rh_3 (rw_y (rr_0 rfl (by omega) hq1) rfl (by omega) emz (by omega)) f_5)⟩) dX8_takesRhythm_45
    · skip
      have c_2 := b_ne (by omega) (by omega) c_2
      refine lv_bipush (v := (-7)) hx hb dX8_takesRhythm_28 (by decide +kernel) ?_
      exact g_iret (Qr := (q_m_takesRhythm_f T n o r le w0 g1 g2 g3 g4 tp w6 w7 w8 w9 w10 w11 w12 w13 w14 g15 w16 g17 w18 w19 g20 w21 g22 g23 g24 w25 w26 w27 g28 g29 w30 g31 g32 g33 fa fr fq fm fn)) hC V ⟨(Nat.le_of_ble_eq_true rfl), (Nat.le_of_ble_eq_true rfl)⟩ (.inr ⟨(-7), rfl, rfl, (by decide +kernel), (rh_s (rw_7 (rr_0 rfl (by omega) hq1) rfl (by omega) emz (by omega) hn10 (by omega)) (by decide +kernel))⟩) dX8_takesRhythm_30
  · skip
    have hq0 := c_1
    refine lv_bipush (v := (-6)) hx hb dX8_takesRhythm_10 (by decide +kernel) ?_
    exact g_iret (Qr := (q_m_takesRhythm_f T n o r le w0 g1 g2 g3 g4 tp w6 w7 w8 w9 w10 w11 w12 w13 w14 g15 w16 g17 w18 w19 g20 w21 g22 g23 g24 w25 w26 w27 g28 g29 w30 g31 g32 g33 fa fr fq fm fn)) hC V ⟨(Nat.le_of_ble_eq_true rfl), (Nat.le_of_ble_eq_true rfl)⟩ (.inr ⟨(-6), rfl, rfl, (by decide +kernel), (rh_s (rw_r (rr_6 rfl (by omega) hq0) (by decide +kernel)) (by decide +kernel))⟩) dX8_takesRhythm_12

def q_m_even_f (T : Nat → ClassId) (n : Nat) (o : Nat) (row : Int32) (le : Int32) (w0 : Int32) (g1 : Nat) (g2 : Nat) (g3 : Nat) (g4 : Nat) (tp : Nat) (w6 : Int32) (w7 : Int32) (w8 : Int32) (w9 : Int32) (w10 : Int32) (w11 : Int32) (w12 : Int32) (w13 : Int32) (w14 : Int32) (g15 : Nat) (w16 : Int32) (g17 : Nat) (w18 : Int32) (w19 : Int32) (g20 : Nat) (w21 : Int32) (g22 : Nat) (g23 : Nat) (g24 : Nat) (w25 : Int32) (w26 : Int32) (w27 : Int32) (g28 : Nat) (g29 : Nat) (w30 : Int32) (g31 : Nat) (g32 : Nat) (g33 : Nat) (fa : Nat → Int32) (fr : Nat → Int64) (fq : Nat → Int32) (fm : Nat → Int32) (fn : Nat → Int64) : Option Value → va_W → Prop := fun rr ww => (∃ (z : Int32) (gr : Nat → Int64), rr = some (.int z) ∧ ww = [(o, .inr (8, [.int (nI 0), .ref g1, .ref g2, .ref g3, .ref g4, .int (nI tp), .int w6, .int w7, .int w8, .int w9, .int w10, .int w11, .int w12, .int w13, .int w14, .ref g15, .int w16, .ref g17, .int w18, .int w19, .ref g20, .int w21, .ref g22, .ref g23, .ref g24, .int w25, .int w26, .int w27, .ref g28, .ref g29, .int w30, .ref g31, .ref g32, .ref g33])), (g1, .inl (T 0, 282, .inl fa)), (g20, .inl (T 1, 10, .inr (.inl gr))), (g31, .inl (T 0, 4, .inl fq)), (g32, .inl (T 0, 4, .inl fm)), (g33, .inl (T 1, 160, .inr (.inl fn)))] ∧ z = evA n fa fq fm fn row le)
set_option maxHeartbeats 4000000 in
set_option maxRecDepth 100000 in
theorem m_even_f (l : Launch) (D : va_G) (T : Nat → ClassId) (n : Nat) (o : Nat) (row : Int32) (le : Int32) (w0 : Int32) (g1 : Nat) (g2 : Nat) (g3 : Nat) (g4 : Nat) (tp : Nat) (w6 : Int32) (w7 : Int32) (w8 : Int32) (w9 : Int32) (w10 : Int32) (w11 : Int32) (w12 : Int32) (w13 : Int32) (w14 : Int32) (g15 : Nat) (w16 : Int32) (g17 : Nat) (w18 : Int32) (w19 : Int32) (g20 : Nat) (w21 : Int32) (g22 : Nat) (g23 : Nat) (g24 : Nat) (w25 : Int32) (w26 : Int32) (w27 : Int32) (g28 : Nat) (g29 : Nat) (w30 : Int32) (g31 : Nat) (g32 : Nat) (g33 : Nat) (fa : Nat → Int32) (fr : Nat → Int64) (fq : Nat → Int32) (fm : Nat → Int32) (fn : Nat → Int64) (h_a : MI n fa) (h_rm : ∀ i, i < 4 → bd (fm i) 41) : Ct l yX8_even cX8_even 9 (some .int) 2 0 0 D T [.ref o, .int row, .int le] [(o, .inr (8, [.int w0, .ref g1, .ref g2, .ref g3, .ref g4, .int (nI tp), .int w6, .int w7, .int w8, .int w9, .int w10, .int w11, .int w12, .int w13, .int w14, .ref g15, .int w16, .ref g17, .int w18, .int w19, .ref g20, .int w21, .ref g22, .ref g23, .ref g24, .int w25, .int w26, .int w27, .ref g28, .ref g29, .int w30, .ref g31, .ref g32, .ref g33])), (g1, .inl (T 0, 282, .inl fa)), (g20, .inl (T 1, 10, .inr (.inl fr))), (g31, .inl (T 0, 4, .inl fq)), (g32, .inl (T 0, 4, .inl fm)), (g33, .inl (T 1, 160, .inr (.inl fn)))] (q_m_even_f T n o row le w0 g1 g2 g3 g4 tp w6 w7 w8 w9 w10 w11 w12 w13 w14 g15 w16 g17 w18 w19 g20 w21 g22 g23 g24 w25 w26 w27 g28 g29 w30 g31 g32 g33 fa fr fq fm fn) := by
  refine Ct.of (cc := cX8_even) (maxL := 9) (ret := (some .int)) (by decide) (Nat.le_of_ble_eq_true rfl) ?_
  intro p e s m args below meth c A ls hC hnm V hl
  obtain ⟨hx, hb, hr, hml, hown, hts, hlocks⟩ := id hC
  generalize hH : s.heap = H at V ⊢
  clear hH
  have hl : lv_has ls 9 [(0, .ref o), (1, .int row), (2, .int le)] := hl
  generalize hlo : ([] : List Loc) = locs at V ⊢
  clear hlo
  have ms0 := ms_rf h_a
  have hn10 := h_a.1
  refine lv_aload_n hx hb dX8_even_0 rfl (lv_at hl 0 rfl) ?_
  refine lv_iconst (v := (nI 0)) hx hb dX8_even_1 (by decide +kernel) ?_
  refine g_put hC V (ci := 8) uwX8 tyX8 tyX8_ok nmX8 0 rfl rfl 0 (by decide) w_912 rfl rfl rfl rfl (Nat.le_of_ble_eq_true rfl) (ws' := [(o, .inr (8, [.int (nI 0), .ref g1, .ref g2, .ref g3, .ref g4, .int (nI tp), .int w6, .int w7, .int w8, .int w9, .int w10, .int w11, .int w12, .int w13, .int w14, .ref g15, .int w16, .ref g17, .int w18, .int w19, .ref g20, .int w21, .ref g22, .ref g23, .ref g24, .int w25, .int w26, .int w27, .ref g28, .ref g29, .int w30, .ref g31, .ref g32, .ref g33])), (g1, .inl (T 0, 282, .inl fa)), (g20, .inl (T 1, 10, .inr (.inl fr))), (g31, .inl (T 0, 4, .inl fq)), (g32, .inl (T 0, 4, .inl fm)), (g33, .inl (T 1, 160, .inr (.inl fn)))]) rfl dX8_even_2 (fun H locs V => ?_)
  refine lv_iload_n hx hb dX8_even_5 rfl (lv_at hl 1 rfl) ?_
  refine lv_i2l (v := row.toInt64) hx hb dX8_even_6 rfl ?_
  refine lv_lconst (v := (nI 0).toInt64) hx hb dX8_even_7 (by decide +kernel) ?_
  refine lv_ldc2 (v := (3)) hx hb hown (hts _ w_1144) dX8_even_8 ?_
  refine g_vl (y := (nI 3).toInt64) (by decide +kernel) ?_
  refine g_callSU (nA := 3) hC V hl.1 (m_within l D T row (nI 0) (nI 3)) w_1023 w_1024 w_9 w_1025 (by decide +kernel) rfl ⟨(Nat.le_of_ble_eq_true rfl), (Nat.le_of_ble_eq_true rfl)⟩ [] rfl rfl (Nat.le_of_ble_eq_true rfl) dX8_even_11 ⟨(Nat.le_of_ble_eq_true rfl), (Nat.le_of_ble_eq_true rfl)⟩ rfl (fun r w1 H locs hQ V => ?_)
  rcases hQ with ⟨rfl, rfl, f_1, f_2⟩ | ⟨rfl, rfl, f_3⟩
  · have V : gW D T A s [(o, .inr (8, [.int (nI 0), .ref g1, .ref g2, .ref g3, .ref g4, .int (nI tp), .int w6, .int w7, .int w8, .int w9, .int w10, .int w11, .int w12, .int w13, .int w14, .ref g15, .int w16, .ref g17, .int w18, .int w19, .ref g20, .int w21, .ref g22, .ref g23, .ref g24, .int w25, .int w26, .int w27, .ref g28, .ref g29, .int w30, .ref g31, .ref g32, .ref g33])), (g1, .inl (T 0, 282, .inl fa)), (g20, .inl (T 1, 10, .inr (.inl fr))), (g31, .inl (T 0, 4, .inl fq)), (g32, .inl (T 0, 4, .inl fm)), (g33, .inl (T 1, 160, .inr (.inl fn)))] H locs := V _ [] rfl rfl rfl (by decide +kernel) rfl
    show W p l e _ s m args below meth c H locs _ _ _ (F0 m 14 ls [.int (nI 1)])
    obtain ⟨r, hr1, hr2, er⟩ := g_rng (by decide) (by decide) f_1 f_2
    rw [er] at hl
    refine lv_if_ne (tgt := 20) hx hb dX8_even_14 (by decide) (fun _ => ?_) (fun c => absurd (show (nI 1) = 0 from c) (by decide +kernel))
    refine lv_aload_n hx hb dX8_even_20 rfl (lv_at hl 0 rfl) ?_
    refine lv_iload_n hx hb dX8_even_21 rfl (lv_at hl 1 rfl) ?_
    refine lv_iload_n hx hb dX8_even_22 rfl (lv_at hl 2 rfl) ?_
    refine g_callV (wr := []) (nA := 2) hC V hl.1 (m_takesRhythm_f l D T n o r le (nI 0) g1 g2 g3 g4 tp w6 w7 w8 w9 w10 w11 w12 w13 w14 g15 w16 g17 w18 w19 g20 w21 g22 g23 g24 w25 w26 w27 g28 g29 w30 g31 g32 g33 fa fr fq fm fn h_a (by first | assumption | omega) (by first | assumption | omega)) w_1224 w_1226 w_s63 w_9 w_1227 (by decide +kernel) rfl ⟨(Nat.le_of_ble_eq_true rfl), (Nat.le_of_ble_eq_true rfl)⟩ 0 (ci := 8) rfl rfl [0, 1, 2, 3, 4, 5] [] rfl rfl rfl rfl (by decide) (Nat.le_of_ble_eq_true rfl) dX8_even_23 ⟨(Nat.le_of_ble_eq_true rfl), (Nat.le_of_ble_eq_true rfl)⟩ rfl (fun r w1 H locs hQ V => ?_)
    rcases hQ with ⟨jl, gR, rfl, rfl, f_4, f_5, f_6, f_7, f_8⟩ | ⟨z_9, rfl, rfl, f_10, f_11⟩
    · have V : gW D T A s [(o, .inr (8, [.int (nI 0), .ref g1, .ref g2, .ref g3, .ref g4, .int (nI tp), .int w6, .int w7, .int w8, .int w9, .int w10, .int w11, .int w12, .int w13, .int w14, .ref g15, .int w16, .ref g17, .int w18, .int w19, .ref g20, .int w21, .ref g22, .ref g23, .ref g24, .int w25, .int w26, .int w27, .ref g28, .ref g29, .int w30, .ref g31, .ref g32, .ref g33])), (g1, .inl (T 0, 282, .inl fa)), (g20, .inl (T 1, 10, .inr (.inl gR))), (g31, .inl (T 0, 4, .inl fq)), (g32, .inl (T 0, 4, .inl fm)), (g33, .inl (T 1, 160, .inr (.inl fn)))] H locs := V
      show W p l e _ s m args below meth c H locs _ _ _ (F0 m 26 ls [.int (nI 0)])
      have hgR := f_8
      rw [f_6] at hl
      refine lv_istore_n (lv' := [(3, .int (nI 0)), (0, .ref o), (1, .int (nI r)), (2, .int (nI jl))]) hx hb dX8_even_26 rfl hl (by decide) rfl (fun ls hl => ?_)
      refine lv_iload_n hx hb dX8_even_27 rfl (lv_at hl 0 rfl) ?_
      refine lv_if_eq (tgt := 33) hx hb dX8_even_28 (by decide) (fun _ => ?_) (fun c => absurd (show (nI 0) = 0 by decide +kernel) c)
      refine lv_iconst (v := (nI 0)) hx hb dX8_even_33 (by decide +kernel) ?_
      refine lv_istore (lv' := [(4, .int (nI 0)), (3, .int (nI 0)), (0, .ref o), (1, .int (nI r)), (2, .int (nI jl))]) hx hb dX8_even_34 hl (by decide) rfl (fun ls hl => ?_)
      refine lv_iconst (v := (nI 0)) hx hb dX8_even_36 (by decide +kernel) ?_
      refine lv_istore (lv' := [(5, .int (nI 0)), (4, .int (nI 0)), (3, .int (nI 0)), (0, .ref o), (1, .int (nI r)), (2, .int (nI jl))]) hx hb dX8_even_37 hl (by decide) rfl (fun ls hl => ?_)
      have L_12 : ∀ (fu : Nat) (k39 : Nat) (x4 : Int32), k39 ≤ n → x4 = evB n fa (rhP fn r jl) jl k39 → n - k39 < fu → ∀ (H : Heap) (locs : List Loc) (ls : Array Slot), gW D T A s [(o, .inr (8, [.int (nI 0), .ref g1, .ref g2, .ref g3, .ref g4, .int (nI tp), .int w6, .int w7, .int w8, .int w9, .int w10, .int w11, .int w12, .int w13, .int w14, .ref g15, .int w16, .ref g17, .int w18, .int w19, .ref g20, .int w21, .ref g22, .ref g23, .ref g24, .int w25, .int w26, .int w27, .ref g28, .ref g29, .int w30, .ref g31, .ref g32, .ref g33])), (g1, .inl (T 0, 282, .inl fa)), (g20, .inl (T 1, 10, .inr (.inl gR))), (g31, .inl (T 0, 4, .inl fq)), (g32, .inl (T 0, 4, .inl fm)), (g33, .inl (T 1, 160, .inr (.inl fn)))] H locs → lv_has ls 9 [(5, .int (nI k39)), (4, .int x4), (3, .int (nI 0)), (0, .ref o), (1, .int (nI r)), (2, .int (nI jl))] → W p l e (rmD 2 0 0) s m args below meth c H locs 0 0 (MQ below (gQ D A (q_m_even_f T n o row le w0 g1 g2 g3 g4 tp w6 w7 w8 w9 w10 w11 w12 w13 w14 g15 w16 g17 w18 w19 g20 w21 g22 g23 g24 w25 w26 w27 g28 g29 w30 g31 g32 g33 fa fr fq fm fn)) args s 0 0 A) (F0 m 39 ls []) := by
        intro fu_39
        induction fu_39 with
        | zero => intro k39 x4 hk39 hx4 hmu; exact absurd hmu (Nat.not_lt_zero _)
        | succ fu_39 ih_39 =>
          intro k39 x4 hk39 hx4 hmu_39 H locs ls V hl
          refine lv_iload hx hb dX8_even_39 (lv_at hl 0 rfl) ?_
          refine lv_aload_n hx hb dX8_even_41 rfl (lv_at hl 3 rfl) ?_
          refine g_get hC V (ci := 8) uwX8 0 rfl rfl 1 (by decide) w_913 rfl rfl dX8_even_42 ?_
          refine lv_iconst (v := (nI 0)) hx hb dX8_even_45 (by decide +kernel) ?_
          refine g_iald hC V 1 rfl (vp_in_nI (by decide) (by decide)) (v := (nI n)) (by rw [nI_clamp (by decide)]; first | rfl | exact h_a.2.1) dX8_even_46 ?_
          refine lv_icmp_ge (tgt := 172) hx hb dX8_even_47 (by decide) (fun c_13 => ?_) (fun c_13 => ?_)
          · skip
            have c_13 := b_le (by omega) (by omega) c_13
            refine lv_iload hx hb dX8_even_172 (lv_at hl 1 rfl) ?_
            exact g_iret (Qr := (q_m_even_f T n o row le w0 g1 g2 g3 g4 tp w6 w7 w8 w9 w10 w11 w12 w13 w14 g15 w16 g17 w18 w19 g20 w21 g22 g23 g24 w25 w26 w27 g28 g29 w30 g31 g32 g33 fa fr fq fm fn)) hC V ⟨(Nat.le_of_ble_eq_true rfl), (Nat.le_of_ble_eq_true rfl)⟩ ⟨x4, gR, rfl, rfl, (eva_y (by rw [er]; exact f_7) er (by omega) f_6 (by omega) (fun i hi t ht => Iff.rfl) hx4 (by omega))⟩ dX8_even_174
          · skip
            have c_13 := b_nle (by omega) (by omega) c_13
            refine lv_iload_n hx hb dX8_even_50 rfl (lv_at hl 5 rfl) ?_
            refine lv_ineg hx hb dX8_even_51 ?_
            refine lv_aload_n hx hb dX8_even_52 rfl (lv_at hl 3 rfl) ?_
            refine g_get hC V (ci := 8) uwX8 0 rfl rfl 1 (by decide) w_913 rfl rfl dX8_even_53 ?_
            refine lv_bipush (v := (nI 14)) hx hb dX8_even_56 (by decide +kernel) ?_
            refine lv_iload hx hb dX8_even_58 (lv_at hl 0 rfl) ?_
            refine lv_iadd hx hb dX8_even_60 ?_
            refine g_vi (y := (nI (14 + k39))) (nI_add _ _) ?_
            obtain ⟨j_14, hj_14, ej_14⟩ := bd_ex (mi_cool h_a (i := k39) (by omega))
            refine g_iald hC V 1 rfl (vp_in_nI (by omega) (by omega)) (v := (nI j_14)) (by rw [nI_clamp (by omega)]; exact ej_14) dX8_even_61 ?_
            refine lv_imul hx hb dX8_even_62 ?_
            refine lv_istore (lv' := [(6, .int ((-(nI jl)) * (nI j_14))), (5, .int (nI k39)), (4, .int x4), (3, .int (nI 0)), (0, .ref o), (1, .int (nI r)), (2, .int (nI jl))]) hx hb dX8_even_63 hl (by decide) rfl (fun ls hl => ?_)
            refine lv_iconst (v := (nI 0)) hx hb dX8_even_65 (by decide +kernel) ?_
            refine lv_istore (lv' := [(7, .int (nI 0)), (6, .int ((-(nI jl)) * (nI j_14))), (5, .int (nI k39)), (4, .int x4), (3, .int (nI 0)), (0, .ref o), (1, .int (nI r)), (2, .int (nI jl))]) hx hb dX8_even_66 hl (by decide) rfl (fun ls hl => ?_)
            have L_15 : ∀ (fu : Nat) (k68 : Nat) (x6 : Int32), k68 ≤ jl → x6 = -(nI jl) * fa (14 + k39) + crF fa (rhP fn r jl) n k39 k68 → jl - k68 < fu → ∀ (H : Heap) (locs : List Loc) (ls : Array Slot), gW D T A s [(o, .inr (8, [.int (nI 0), .ref g1, .ref g2, .ref g3, .ref g4, .int (nI tp), .int w6, .int w7, .int w8, .int w9, .int w10, .int w11, .int w12, .int w13, .int w14, .ref g15, .int w16, .ref g17, .int w18, .int w19, .ref g20, .int w21, .ref g22, .ref g23, .ref g24, .int w25, .int w26, .int w27, .ref g28, .ref g29, .int w30, .ref g31, .ref g32, .ref g33])), (g1, .inl (T 0, 282, .inl fa)), (g20, .inl (T 1, 10, .inr (.inl gR))), (g31, .inl (T 0, 4, .inl fq)), (g32, .inl (T 0, 4, .inl fm)), (g33, .inl (T 1, 160, .inr (.inl fn)))] H locs → lv_has ls 9 [(7, .int (nI k68)), (6, .int x6), (5, .int (nI k39)), (4, .int x4), (3, .int (nI 0)), (0, .ref o), (1, .int (nI r)), (2, .int (nI jl))] → W p l e (rmD 2 0 0) s m args below meth c H locs 0 0 (MQ below (gQ D A (q_m_even_f T n o row le w0 g1 g2 g3 g4 tp w6 w7 w8 w9 w10 w11 w12 w13 w14 g15 w16 g17 w18 w19 g20 w21 g22 g23 g24 w25 w26 w27 g28 g29 w30 g31 g32 g33 fa fr fq fm fn)) args s 0 0 A) (F0 m 68 ls []) := by
              intro fu_68
              induction fu_68 with
              | zero => intro k68 x6 hk68 hx6 hmu; exact absurd hmu (Nat.not_lt_zero _)
              | succ fu_68 ih_68 =>
                intro k68 x6 hk68 hx6 hmu_68 H locs ls V hl
                refine lv_iload hx hb dX8_even_68 (lv_at hl 0 rfl) ?_
                refine lv_iload_n hx hb dX8_even_70 rfl (lv_at hl 7 rfl) ?_
                refine lv_icmp_ge (tgt := 148) hx hb dX8_even_71 (by decide) (fun c_16 => ?_) (fun c_16 => ?_)
                · skip
                  have c_16 := b_le (by omega) (by omega) c_16
                  refine lv_iload hx hb dX8_even_148 (lv_at hl 3 rfl) ?_
                  refine lv_iload hx hb dX8_even_150 (lv_at hl 1 rfl) ?_
                  refine lv_if_ne (tgt := 162) hx hb dX8_even_152 (by decide) (fun c_17 => ?_) (fun c_17 => ?_)
                  · skip
                    refine lv_iconst (v := (nI 0)) hx hb dX8_even_162 (by decide +kernel) ?_
                    refine lv_ior hx hb dX8_even_163 ?_
                    refine lv_istore (lv' := [(4, .int (x4 ||| (nI 0))), (7, .int (nI k68)), (6, .int x6), (5, .int (nI k39)), (3, .int (nI 0)), (0, .ref o), (1, .int (nI r)), (2, .int (nI jl))]) hx hb dX8_even_164 hl (by decide) rfl (fun ls hl => ?_)
                    refine lv_iinc (v := (nI (k39 + 1))) (lv' := [(5, .int (nI (k39 + 1))), (4, .int (x4 ||| (nI 0))), (7, .int (nI k68)), (6, .int x6), (3, .int (nI 0)), (0, .ref o), (1, .int (nI r)), (2, .int (nI jl))]) hx hb dX8_even_166 hl (k := 3) rfl (nI_1 _) (by decide) rfl (fun ls hl => ?_)
                    refine lv_goto (tgt := 39) hx hb dX8_even_169 (by decide) ?_
                    exact ih_39 (k39 + 1) (x4 ||| (nI 0)) (by omega) (ev_n hx4 (es_m hx6 (by omega)) c_17) (by omega) _ _ _ V (lv_sub hl [0, 1, 4, 5, 6, 7] rfl)
                  · skip
                    refine lv_iconst (v := (nI 1)) hx hb dX8_even_155 (by decide +kernel) ?_
                    refine lv_iload hx hb dX8_even_156 (lv_at hl 2 rfl) ?_
                    refine lv_ishl hx hb dX8_even_158 ?_
                    refine lv_goto (tgt := 163) hx hb dX8_even_159 (by decide) ?_
                    refine lv_ior hx hb dX8_even_163 ?_
                    refine lv_istore (lv' := [(4, .int (x4 ||| ((nI 1) <<< ((nI k39) &&& 31)))), (7, .int (nI k68)), (6, .int x6), (5, .int (nI k39)), (3, .int (nI 0)), (0, .ref o), (1, .int (nI r)), (2, .int (nI jl))]) hx hb dX8_even_164 hl (by decide) rfl (fun ls hl => ?_)
                    refine lv_iinc (v := (nI (k39 + 1))) (lv' := [(5, .int (nI (k39 + 1))), (4, .int (x4 ||| ((nI 1) <<< ((nI k39) &&& 31)))), (7, .int (nI k68)), (6, .int x6), (3, .int (nI 0)), (0, .ref o), (1, .int (nI r)), (2, .int (nI jl))]) hx hb dX8_even_166 hl (k := 3) rfl (nI_1 _) (by decide) rfl (fun ls hl => ?_)
                    refine lv_goto (tgt := 39) hx hb dX8_even_169 (by decide) ?_
                    exact ih_39 (k39 + 1) (x4 ||| ((nI 1) <<< ((nI k39) &&& 31))) (by omega) (ev_y hx4 (es_m hx6 (by omega)) c_17) (by omega) _ _ _ V (lv_sub hl [0, 1, 4, 5, 6, 7] rfl)
                · skip
                  have c_16 := b_nle (by omega) (by omega) c_16
                  refine lv_iconst (v := (nI 0)) hx hb dX8_even_74 (by decide +kernel) ?_
                  refine lv_istore (lv' := [(8, .int (nI 0)), (7, .int (nI k68)), (6, .int x6), (5, .int (nI k39)), (4, .int x4), (3, .int (nI 0)), (0, .ref o), (1, .int (nI r)), (2, .int (nI jl))]) hx hb dX8_even_75 hl (by decide) rfl (fun ls hl => ?_)
                  have L_18 : ∀ (fu : Nat) (k77 : Nat) (x7 : Int32), k77 ≤ n → x7 = -(nI jl) * fa (14 + k39) + crF fa (rhP fn r jl) n k39 k68 + bbF fa (rhP fn r jl) k39 k68 k77 → n - k77 < fu → ∀ (H : Heap) (locs : List Loc) (ls : Array Slot), gW D T A s [(o, .inr (8, [.int (nI 0), .ref g1, .ref g2, .ref g3, .ref g4, .int (nI tp), .int w6, .int w7, .int w8, .int w9, .int w10, .int w11, .int w12, .int w13, .int w14, .ref g15, .int w16, .ref g17, .int w18, .int w19, .ref g20, .int w21, .ref g22, .ref g23, .ref g24, .int w25, .int w26, .int w27, .ref g28, .ref g29, .int w30, .ref g31, .ref g32, .ref g33])), (g1, .inl (T 0, 282, .inl fa)), (g20, .inl (T 1, 10, .inr (.inl gR))), (g31, .inl (T 0, 4, .inl fq)), (g32, .inl (T 0, 4, .inl fm)), (g33, .inl (T 1, 160, .inr (.inl fn)))] H locs → lv_has ls 9 [(8, .int (nI k77)), (7, .int (nI k68)), (6, .int x7), (5, .int (nI k39)), (4, .int x4), (3, .int (nI 0)), (0, .ref o), (1, .int (nI r)), (2, .int (nI jl))] → W p l e (rmD 2 0 0) s m args below meth c H locs 0 0 (MQ below (gQ D A (q_m_even_f T n o row le w0 g1 g2 g3 g4 tp w6 w7 w8 w9 w10 w11 w12 w13 w14 g15 w16 g17 w18 w19 g20 w21 g22 g23 g24 w25 w26 w27 g28 g29 w30 g31 g32 g33 fa fr fq fm fn)) args s 0 0 A) (F0 m 77 ls []) := by
                    intro fu_77
                    induction fu_77 with
                    | zero => intro k77 x7 hk77 hx7 hmu; exact absurd hmu (Nat.not_lt_zero _)
                    | succ fu_77 ih_77 =>
                      intro k77 x7 hk77 hx7 hmu_77 H locs ls V hl
                      refine lv_iload hx hb dX8_even_77 (lv_at hl 0 rfl) ?_
                      refine lv_aload_n hx hb dX8_even_79 rfl (lv_at hl 6 rfl) ?_
                      refine g_get hC V (ci := 8) uwX8 0 rfl rfl 1 (by decide) w_913 rfl rfl dX8_even_80 ?_
                      refine lv_iconst (v := (nI 0)) hx hb dX8_even_83 (by decide +kernel) ?_
                      refine g_iald hC V 1 rfl (vp_in_nI (by decide) (by decide)) (v := (nI n)) (by rw [nI_clamp (by decide)]; first | rfl | exact h_a.2.1) dX8_even_84 ?_
                      refine lv_icmp_ge (tgt := 142) hx hb dX8_even_85 (by decide) (fun c_19 => ?_) (fun c_19 => ?_)
                      · skip
                        have c_19 := b_le (by omega) (by omega) c_19
                        refine lv_iinc (v := (nI (k68 + 1))) (lv' := [(7, .int (nI (k68 + 1))), (8, .int (nI k77)), (6, .int x7), (5, .int (nI k39)), (4, .int x4), (3, .int (nI 0)), (0, .ref o), (1, .int (nI r)), (2, .int (nI jl))]) hx hb dX8_even_142 hl (k := 1) rfl (nI_1 _) (by decide) rfl (fun ls hl => ?_)
                        refine lv_goto (tgt := 68) hx hb dX8_even_145 (by decide) ?_
                        exact ih_68 (k68 + 1) x7 (by omega) (cr_s hx7 (by omega)) (by omega) _ _ _ V (lv_sub hl [0, 2, 3, 4, 5, 6, 7, 8] rfl)
                      · skip
                        have c_19 := b_nle (by omega) (by omega) c_19
                        refine lv_iload hx hb dX8_even_88 (lv_at hl 2 rfl) ?_
                        refine lv_aload_n hx hb dX8_even_90 rfl (lv_at hl 6 rfl) ?_
                        refine g_get hC V (ci := 8) uwX8 0 rfl rfl 1 (by decide) w_913 rfl rfl dX8_even_91 ?_
                        refine lv_bipush (v := (nI 84)) hx hb dX8_even_94 (by decide +kernel) ?_
                        refine lv_iload hx hb dX8_even_96 (lv_at hl 0 rfl) ?_
                        refine lv_iadd hx hb dX8_even_98 ?_
                        refine g_vi (y := (nI (84 + k77))) (nI_add _ _) ?_
                        obtain ⟨j_20, hj_20, ej_20⟩ := bd_ex (mi_to h_a (i := k77) (by omega))
                        refine g_iald hC V 1 rfl (vp_in_nI (by omega) (by omega)) (v := (nI j_20)) (by rw [nI_clamp (by omega)]; exact ej_20) dX8_even_99 ?_
                        refine lv_iload hx hb dX8_even_100 (lv_at hl 3 rfl) ?_
                        refine lv_icmp_ne (tgt := 132) hx hb dX8_even_102 (by decide) (fun c_21 => ?_) (fun c_21 => ?_)
                        · skip
                          have c_21 := b_ne (by omega) (by omega) c_21
                          refine lv_iconst (v := (nI 0)) hx hb dX8_even_132 (by decide +kernel) ?_
                          refine lv_iadd hx hb dX8_even_133 ?_
                          refine lv_istore (lv' := [(6, .int (x7 + (nI 0))), (8, .int (nI k77)), (7, .int (nI k68)), (5, .int (nI k39)), (4, .int x4), (3, .int (nI 0)), (0, .ref o), (1, .int (nI r)), (2, .int (nI jl))]) hx hb dX8_even_134 hl (by decide) rfl (fun ls hl => ?_)
                          refine lv_iinc (v := (nI (k77 + 1))) (lv' := [(8, .int (nI (k77 + 1))), (6, .int (x7 + (nI 0))), (7, .int (nI k68)), (5, .int (nI k39)), (4, .int x4), (3, .int (nI 0)), (0, .ref o), (1, .int (nI r)), (2, .int (nI jl))]) hx hb dX8_even_136 hl (k := 1) rfl (nI_1 _) (by decide) rfl (fun ls hl => ?_)
                          refine lv_goto (tgt := 77) hx hb dX8_even_139 (by decide) ?_
                          exact ih_77 (k77 + 1) (x7 + (nI 0)) (by omega) (bb_n hx7 (fun q => c_21 (b_eq (by omega) (by omega) (ej_20.symm.trans q.1)))) (by omega) _ _ _ V (lv_sub hl [0, 2, 1, 3, 4, 5, 6, 7, 8] rfl)
                        · skip
                          have c_21 := b_eq (by omega) (by omega) c_21
                          refine lv_aload_n hx hb dX8_even_105 rfl (lv_at hl 6 rfl) ?_
                          refine g_get hC V (ci := 8) uwX8 0 rfl rfl 20 (by decide) w_932 rfl rfl dX8_even_106 ?_
                          refine lv_iload hx hb dX8_even_109 (lv_at hl 0 rfl) ?_
                          refine g_lald hC V 2 rfl (vp_in_nI (by omega) (by omega)) (v := (gR k77)) (congrArg _ (nI_clamp (by omega))) dX8_even_111 ?_
                          refine lv_iload hx hb dX8_even_112 (lv_at hl 1 rfl) ?_
                          refine g_callSU (nA := 2) hC V hl.1 (m_isInL_f l D T (gR k77) k68) w_1130 w_1131 w_9 w_1132 (by decide +kernel) rfl ⟨(Nat.le_of_ble_eq_true rfl), (Nat.le_of_ble_eq_true rfl)⟩ [] rfl rfl (Nat.le_of_ble_eq_true rfl) dX8_even_114 ⟨(Nat.le_of_ble_eq_true rfl), (Nat.le_of_ble_eq_true rfl)⟩ rfl (fun r w1 H locs hQ V => ?_)
                          rcases hQ with ⟨rfl, rfl, f_22⟩ | ⟨rfl, rfl, f_23⟩
                          · have V : gW D T A s [(o, .inr (8, [.int (nI 0), .ref g1, .ref g2, .ref g3, .ref g4, .int (nI tp), .int w6, .int w7, .int w8, .int w9, .int w10, .int w11, .int w12, .int w13, .int w14, .ref g15, .int w16, .ref g17, .int w18, .int w19, .ref g20, .int w21, .ref g22, .ref g23, .ref g24, .int w25, .int w26, .int w27, .ref g28, .ref g29, .int w30, .ref g31, .ref g32, .ref g33])), (g1, .inl (T 0, 282, .inl fa)), (g20, .inl (T 1, 10, .inr (.inl gR))), (g31, .inl (T 0, 4, .inl fq)), (g32, .inl (T 0, 4, .inl fm)), (g33, .inl (T 1, 160, .inr (.inl fn)))] H locs := V _ [] rfl rfl rfl (by decide +kernel) rfl
                            show W p l e _ s m args below meth c H locs _ _ _ (F0 m 117 ls [.int (nI 1), .int x7])
                            refine lv_if_eq (tgt := 132) hx hb dX8_even_117 (by decide) (fun c => absurd (show (nI 1) = 0 from c) (by decide +kernel)) (fun _ => ?_)
                            refine lv_aload_n hx hb dX8_even_120 rfl (lv_at hl 6 rfl) ?_
                            refine g_get hC V (ci := 8) uwX8 0 rfl rfl 1 (by decide) w_913 rfl rfl dX8_even_121 ?_
                            refine lv_iconst (v := (nI 4)) hx hb dX8_even_124 (by decide +kernel) ?_
                            refine lv_iload hx hb dX8_even_125 (lv_at hl 0 rfl) ?_
                            refine lv_iadd hx hb dX8_even_127 ?_
                            refine g_vi (y := (nI (4 + k77))) (nI_add _ _) ?_
                            obtain ⟨j_24, hj_24, ej_24⟩ := bd_ex (mi_blast h_a (i := k77) (by omega))
                            refine g_iald hC V 1 rfl (vp_in_nI (by omega) (by omega)) (v := (nI j_24)) (by rw [nI_clamp (by omega)]; exact ej_24) dX8_even_128 ?_
                            refine lv_goto (tgt := 133) hx hb dX8_even_129 (by decide) ?_
                            refine lv_iadd hx hb dX8_even_133 ?_
                            refine lv_istore (lv' := [(6, .int (x7 + (nI j_24))), (8, .int (nI k77)), (7, .int (nI k68)), (5, .int (nI k39)), (4, .int x4), (3, .int (nI 0)), (0, .ref o), (1, .int (nI r)), (2, .int (nI jl))]) hx hb dX8_even_134 hl (by decide) rfl (fun ls hl => ?_)
                            refine lv_iinc (v := (nI (k77 + 1))) (lv' := [(8, .int (nI (k77 + 1))), (6, .int (x7 + (nI j_24))), (7, .int (nI k68)), (5, .int (nI k39)), (4, .int x4), (3, .int (nI 0)), (0, .ref o), (1, .int (nI r)), (2, .int (nI jl))]) hx hb dX8_even_136 hl (k := 1) rfl (nI_1 _) (by decide) rfl (fun ls hl => ?_)
                            refine lv_goto (tgt := 77) hx hb dX8_even_139 (by decide) ?_
                            exact ih_77 (k77 + 1) (x7 + (nI j_24)) (by omega) (by rw [← ej_24]; exact bb_y hx7 (ej_20.trans (by rw [c_21])) ((rp_b (L := jl) (hgR k77 (by omega)) (by omega) (by omega)).mp f_22)) (by omega) _ _ _ V (lv_sub hl [0, 2, 1, 3, 4, 5, 6, 7, 8] rfl)
                          · have V : gW D T A s [(o, .inr (8, [.int (nI 0), .ref g1, .ref g2, .ref g3, .ref g4, .int (nI tp), .int w6, .int w7, .int w8, .int w9, .int w10, .int w11, .int w12, .int w13, .int w14, .ref g15, .int w16, .ref g17, .int w18, .int w19, .ref g20, .int w21, .ref g22, .ref g23, .ref g24, .int w25, .int w26, .int w27, .ref g28, .ref g29, .int w30, .ref g31, .ref g32, .ref g33])), (g1, .inl (T 0, 282, .inl fa)), (g20, .inl (T 1, 10, .inr (.inl gR))), (g31, .inl (T 0, 4, .inl fq)), (g32, .inl (T 0, 4, .inl fm)), (g33, .inl (T 1, 160, .inr (.inl fn)))] H locs := V _ [] rfl rfl rfl (by decide +kernel) rfl
                            show W p l e _ s m args below meth c H locs _ _ _ (F0 m 117 ls [.int (nI 0), .int x7])
                            refine lv_if_eq (tgt := 132) hx hb dX8_even_117 (by decide) (fun _ => ?_) (fun c => absurd (show (nI 0) = 0 by decide +kernel) c)
                            refine lv_iconst (v := (nI 0)) hx hb dX8_even_132 (by decide +kernel) ?_
                            refine lv_iadd hx hb dX8_even_133 ?_
                            refine lv_istore (lv' := [(6, .int (x7 + (nI 0))), (8, .int (nI k77)), (7, .int (nI k68)), (5, .int (nI k39)), (4, .int x4), (3, .int (nI 0)), (0, .ref o), (1, .int (nI r)), (2, .int (nI jl))]) hx hb dX8_even_134 hl (by decide) rfl (fun ls hl => ?_)
                            refine lv_iinc (v := (nI (k77 + 1))) (lv' := [(8, .int (nI (k77 + 1))), (6, .int (x7 + (nI 0))), (7, .int (nI k68)), (5, .int (nI k39)), (4, .int x4), (3, .int (nI 0)), (0, .ref o), (1, .int (nI r)), (2, .int (nI jl))]) hx hb dX8_even_136 hl (k := 1) rfl (nI_1 _) (by decide) rfl (fun ls hl => ?_)
                            refine lv_goto (tgt := 77) hx hb dX8_even_139 (by decide) ?_
                            exact ih_77 (k77 + 1) (x7 + (nI 0)) (by omega) (bb_n hx7 (fun q => f_23 ((rp_b (L := jl) (hgR k77 (by omega)) (by omega) (by omega)).mpr q.2))) (by omega) _ _ _ V (lv_sub hl [0, 2, 1, 3, 4, 5, 6, 7, 8] rfl)
                  exact L_18 _ 0 x6 (by omega) (hx6.trans (add_n0 _)) (Nat.lt_succ_self _) _ _ _ V (lv_sub hl [0, 1, 2, 3, 4, 5, 6, 7, 8] rfl)
            exact L_15 _ 0 ((-(nI jl)) * (nI j_14)) (by omega) (by rw [ej_14]; exact add_n0 _) (Nat.lt_succ_self _) _ _ _ V (lv_sub hl [0, 1, 2, 3, 4, 5, 6, 7] rfl)
      exact L_12 _ 0 (nI 0) (by omega) rfl (Nat.lt_succ_self _) _ _ _ V (lv_sub hl [0, 1, 2, 3, 4, 5] rfl)
    · have V : gW D T A s [(o, .inr (8, [.int (nI 0), .ref g1, .ref g2, .ref g3, .ref g4, .int (nI tp), .int w6, .int w7, .int w8, .int w9, .int w10, .int w11, .int w12, .int w13, .int w14, .ref g15, .int w16, .ref g17, .int w18, .int w19, .ref g20, .int w21, .ref g22, .ref g23, .ref g24, .int w25, .int w26, .int w27, .ref g28, .ref g29, .int w30, .ref g31, .ref g32, .ref g33])), (g1, .inl (T 0, 282, .inl fa)), (g20, .inl (T 1, 10, .inr (.inl fr))), (g31, .inl (T 0, 4, .inl fq)), (g32, .inl (T 0, 4, .inl fm)), (g33, .inl (T 1, 160, .inr (.inl fn)))] H locs := V
      show W p l e _ s m args below meth c H locs _ _ _ (F0 m 26 ls [.int z_9])
      refine lv_istore_n (lv' := [(3, .int z_9), (0, .ref o), (1, .int (nI r)), (2, .int le)]) hx hb dX8_even_26 rfl hl (by decide) rfl (fun ls hl => ?_)
      refine lv_iload_n hx hb dX8_even_27 rfl (lv_at hl 0 rfl) ?_
      refine lv_if_eq (tgt := 33) hx hb dX8_even_28 (by decide) (fun c_25 => ?_) (fun c_25 => ?_)
      · skip
        exact (absurd c_25 (by assumption) : False).elim
      · skip
        refine lv_iload_n hx hb dX8_even_31 rfl (lv_at hl 0 rfl) ?_
        exact g_iret (Qr := (q_m_even_f T n o row le w0 g1 g2 g3 g4 tp w6 w7 w8 w9 w10 w11 w12 w13 w14 g15 w16 g17 w18 w19 g20 w21 g22 g23 g24 w25 w26 w27 g28 g29 w30 g31 g32 g33 fa fr fq fm fn)) hC V ⟨(Nat.le_of_ble_eq_true rfl), (Nat.le_of_ble_eq_true rfl)⟩ ⟨z_9, fr, rfl, rfl, (eva_n (by rw [er]; exact f_11) f_10)⟩ dX8_even_32
  · have V : gW D T A s [(o, .inr (8, [.int (nI 0), .ref g1, .ref g2, .ref g3, .ref g4, .int (nI tp), .int w6, .int w7, .int w8, .int w9, .int w10, .int w11, .int w12, .int w13, .int w14, .ref g15, .int w16, .ref g17, .int w18, .int w19, .ref g20, .int w21, .ref g22, .ref g23, .ref g24, .int w25, .int w26, .int w27, .ref g28, .ref g29, .int w30, .ref g31, .ref g32, .ref g33])), (g1, .inl (T 0, 282, .inl fa)), (g20, .inl (T 1, 10, .inr (.inl fr))), (g31, .inl (T 0, 4, .inl fq)), (g32, .inl (T 0, 4, .inl fm)), (g33, .inl (T 1, 160, .inr (.inl fn)))] H locs := V _ [] rfl rfl rfl (by decide +kernel) rfl
    show W p l e _ s m args below meth c H locs _ _ _ (F0 m 14 ls [.int (nI 0)])
    have r0 : (row < 0 ∨ nI 4 ≤ row) := nv_r rfl (by decide) f_3
    refine lv_if_ne (tgt := 20) hx hb dX8_even_14 (by decide) (fun c => absurd (show (nI 0) = 0 by decide +kernel) c) (fun _ => ?_)
    refine lv_bipush (v := (-2)) hx hb dX8_even_17 (by decide +kernel) ?_
    exact g_iret (Qr := (q_m_even_f T n o row le w0 g1 g2 g3 g4 tp w6 w7 w8 w9 w10 w11 w12 w13 w14 g15 w16 g17 w18 w19 g20 w21 g22 g23 g24 w25 w26 w27 g28 g29 w30 g31 g32 g33 fa fr fq fm fn)) hC V ⟨(Nat.le_of_ble_eq_true rfl), (Nat.le_of_ble_eq_true rfl)⟩ ⟨(-2), fr, rfl, rfl, (eva_n (rh_s (rw_r (rr_2 r0) (by decide +kernel)) (by decide +kernel)) (by decide +kernel))⟩ dX8_even_19
