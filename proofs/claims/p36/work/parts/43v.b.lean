def q_m_judge_f (T : Nat → ClassId) (n : Nat) (o : Nat) (row : Int32) (wh : Int32) (w0 : Int32) (g1 : Nat) (g2 : Nat) (g3 : Nat) (g4 : Nat) (tp : Nat) (w6 : Int32) (w7 : Int32) (w8 : Int32) (w9 : Int32) (w10 : Int32) (w11 : Int32) (w12 : Int32) (w13 : Int32) (w14 : Int32) (g15 : Nat) (w16 : Int32) (g17 : Nat) (w18 : Int32) (w19 : Int32) (g20 : Nat) (w21 : Int32) (g22 : Nat) (g23 : Nat) (g24 : Nat) (w25 : Int32) (w26 : Int32) (w27 : Int32) (g28 : Nat) (g29 : Nat) (w30 : Int32) (g31 : Nat) (g32 : Nat) (g33 : Nat) (fa : Nat → Int32) (fh : Nat → Int32) (fk : Nat → Int32) (fq : Nat → Int32) (fm : Nat → Int32) (fn : Nat → Int64) : Option Value → va_W → Prop := fun rr ww => (∃ (z : Int32) (bm : Int32) (b2 : Int32) (b3 : Int32) (gh : Nat → Int32) (gk : Nat → Int32), rr = some (.int z) ∧ ww = [(o, .inr (8, [.int (nI 0), .ref g1, .ref g2, .ref g3, .ref g4, .int (nI tp), .int w6, .int w7, .int w8, .int w9, .int w10, .int w11, .int w12, .int w13, .int w14, .ref g15, .int bm, .ref g17, .int b2, .int b3, .ref g20, .int w21, .ref g22, .ref g23, .ref g24, .int w25, .int w26, .int w27, .ref g28, .ref g29, .int w30, .ref g31, .ref g32, .ref g33])), (g1, .inl (T 0, 282, .inl fa)), (g15, .inl (T 0, 10, .inl gh)), (g17, .inl (T 0, 94, .inl gk)), (g31, .inl (T 0, 4, .inl fq)), (g32, .inl (T 0, 4, .inl fm)), (g33, .inl (T 1, 160, .inr (.inl fn)))] ∧ z = jdA n fa fq fm fn row wh)
set_option maxHeartbeats 4000000 in
set_option maxRecDepth 100000 in
theorem m_judge_f (l : Launch) (D : va_G) (T : Nat → ClassId) (n : Nat) (o : Nat) (row : Int32) (wh : Int32) (w0 : Int32) (g1 : Nat) (g2 : Nat) (g3 : Nat) (g4 : Nat) (tp : Nat) (w6 : Int32) (w7 : Int32) (w8 : Int32) (w9 : Int32) (w10 : Int32) (w11 : Int32) (w12 : Int32) (w13 : Int32) (w14 : Int32) (g15 : Nat) (w16 : Int32) (g17 : Nat) (w18 : Int32) (w19 : Int32) (g20 : Nat) (w21 : Int32) (g22 : Nat) (g23 : Nat) (g24 : Nat) (w25 : Int32) (w26 : Int32) (w27 : Int32) (g28 : Nat) (g29 : Nat) (w30 : Int32) (g31 : Nat) (g32 : Nat) (g33 : Nat) (fa : Nat → Int32) (fh : Nat → Int32) (fk : Nat → Int32) (fq : Nat → Int32) (fm : Nat → Int32) (fn : Nat → Int64) (h_a : MI n fa) (h_rm : ∀ i, i < 4 → bd (fm i) 41) : Ct l yX8_judge cX8_judge 5 (some .int) 4 0 0 D T [.ref o, .int row, .int wh] [(o, .inr (8, [.int w0, .ref g1, .ref g2, .ref g3, .ref g4, .int (nI tp), .int w6, .int w7, .int w8, .int w9, .int w10, .int w11, .int w12, .int w13, .int w14, .ref g15, .int w16, .ref g17, .int w18, .int w19, .ref g20, .int w21, .ref g22, .ref g23, .ref g24, .int w25, .int w26, .int w27, .ref g28, .ref g29, .int w30, .ref g31, .ref g32, .ref g33])), (g1, .inl (T 0, 282, .inl fa)), (g15, .inl (T 0, 10, .inl fh)), (g17, .inl (T 0, 94, .inl fk)), (g31, .inl (T 0, 4, .inl fq)), (g32, .inl (T 0, 4, .inl fm)), (g33, .inl (T 1, 160, .inr (.inl fn)))] (q_m_judge_f T n o row wh w0 g1 g2 g3 g4 tp w6 w7 w8 w9 w10 w11 w12 w13 w14 g15 w16 g17 w18 w19 g20 w21 g22 g23 g24 w25 w26 w27 g28 g29 w30 g31 g32 g33 fa fh fk fq fm fn) := by
  refine Ct.of (cc := cX8_judge) (maxL := 5) (ret := (some .int)) (by decide) (Nat.le_of_ble_eq_true rfl) ?_
  intro p e s m args below meth c A ls hC hnm V hl
  obtain ⟨hx, hb, hr, hml, hown, hts, hlocks⟩ := id hC
  generalize hH : s.heap = H at V ⊢
  clear hH
  have hl : lv_has ls 5 [(0, .ref o), (1, .int row), (2, .int wh)] := hl
  generalize hlo : ([] : List Loc) = locs at V ⊢
  clear hlo
  have ms0 := ms_rf h_a
  have hn10 := h_a.1
  refine lv_aload_n hx hb dX8_judge_0 rfl (lv_at hl 0 rfl) ?_
  refine lv_iconst (v := (nI 0)) hx hb dX8_judge_1 (by decide +kernel) ?_
  refine g_put hC V (ci := 8) uwX8 tyX8 tyX8_ok nmX8 0 rfl rfl 0 (by decide) w_912 rfl rfl rfl rfl (Nat.le_of_ble_eq_true rfl) (ws' := [(o, .inr (8, [.int (nI 0), .ref g1, .ref g2, .ref g3, .ref g4, .int (nI tp), .int w6, .int w7, .int w8, .int w9, .int w10, .int w11, .int w12, .int w13, .int w14, .ref g15, .int w16, .ref g17, .int w18, .int w19, .ref g20, .int w21, .ref g22, .ref g23, .ref g24, .int w25, .int w26, .int w27, .ref g28, .ref g29, .int w30, .ref g31, .ref g32, .ref g33])), (g1, .inl (T 0, 282, .inl fa)), (g15, .inl (T 0, 10, .inl fh)), (g17, .inl (T 0, 94, .inl fk)), (g31, .inl (T 0, 4, .inl fq)), (g32, .inl (T 0, 4, .inl fm)), (g33, .inl (T 1, 160, .inr (.inl fn)))]) rfl dX8_judge_2 (fun H locs V => ?_)
  refine lv_iload_n hx hb dX8_judge_5 rfl (lv_at hl 1 rfl) ?_
  refine lv_i2l (v := row.toInt64) hx hb dX8_judge_6 rfl ?_
  refine lv_lconst (v := (nI 0).toInt64) hx hb dX8_judge_7 (by decide +kernel) ?_
  refine lv_ldc2 (v := (3)) hx hb hown (hts _ w_1144) dX8_judge_8 ?_
  refine g_vl (y := (nI 3).toInt64) (by decide +kernel) ?_
  refine g_callSU (nA := 3) hC V hl.1 (m_within l D T row (nI 0) (nI 3)) w_1023 w_1024 w_9 w_1025 (by decide +kernel) rfl ⟨(Nat.le_of_ble_eq_true rfl), (Nat.le_of_ble_eq_true rfl)⟩ [] rfl rfl (Nat.le_of_ble_eq_true rfl) dX8_judge_11 ⟨(Nat.le_of_ble_eq_true rfl), (Nat.le_of_ble_eq_true rfl)⟩ rfl (fun r w1 H locs hQ V => ?_)
  rcases hQ with ⟨rfl, rfl, f_1, f_2⟩ | ⟨rfl, rfl, f_3⟩
  · have V : gW D T A s [(o, .inr (8, [.int (nI 0), .ref g1, .ref g2, .ref g3, .ref g4, .int (nI tp), .int w6, .int w7, .int w8, .int w9, .int w10, .int w11, .int w12, .int w13, .int w14, .ref g15, .int w16, .ref g17, .int w18, .int w19, .ref g20, .int w21, .ref g22, .ref g23, .ref g24, .int w25, .int w26, .int w27, .ref g28, .ref g29, .int w30, .ref g31, .ref g32, .ref g33])), (g1, .inl (T 0, 282, .inl fa)), (g15, .inl (T 0, 10, .inl fh)), (g17, .inl (T 0, 94, .inl fk)), (g31, .inl (T 0, 4, .inl fq)), (g32, .inl (T 0, 4, .inl fm)), (g33, .inl (T 1, 160, .inr (.inl fn)))] H locs := V _ [] rfl rfl rfl (by decide +kernel) rfl
    show W p l e _ s m args below meth c H locs _ _ _ (F0 m 14 ls [.int (nI 1)])
    obtain ⟨r, hr1, hr2, er⟩ := g_rng (by decide) (by decide) f_1 f_2
    rw [er] at hl
    obtain ⟨mz, hmz, emz⟩ := h_rm r (by omega)
    refine lv_if_eq (tgt := 29) hx hb dX8_judge_14 (by decide) (fun c => absurd (show (nI 1) = 0 from c) (by decide +kernel)) (fun _ => ?_)
    refine lv_iload_n hx hb dX8_judge_17 rfl (lv_at hl 2 rfl) ?_
    refine lv_i2l (v := wh.toInt64) hx hb dX8_judge_18 rfl ?_
    refine lv_lconst (v := (nI 0).toInt64) hx hb dX8_judge_19 (by decide +kernel) ?_
    refine lv_ldc2 (v := (4)) hx hb hown (hts _ w_1145) dX8_judge_20 ?_
    refine g_vl (y := (nI 4).toInt64) (by decide +kernel) ?_
    refine g_callSU (nA := 3) hC V hl.1 (m_within l D T wh (nI 0) (nI 4)) w_1023 w_1024 w_9 w_1025 (by decide +kernel) rfl ⟨(Nat.le_of_ble_eq_true rfl), (Nat.le_of_ble_eq_true rfl)⟩ [] rfl rfl (Nat.le_of_ble_eq_true rfl) dX8_judge_23 ⟨(Nat.le_of_ble_eq_true rfl), (Nat.le_of_ble_eq_true rfl)⟩ rfl (fun r w1 H locs hQ V => ?_)
    rcases hQ with ⟨rfl, rfl, f_4, f_5⟩ | ⟨rfl, rfl, f_6⟩
    · have V : gW D T A s [(o, .inr (8, [.int (nI 0), .ref g1, .ref g2, .ref g3, .ref g4, .int (nI tp), .int w6, .int w7, .int w8, .int w9, .int w10, .int w11, .int w12, .int w13, .int w14, .ref g15, .int w16, .ref g17, .int w18, .int w19, .ref g20, .int w21, .ref g22, .ref g23, .ref g24, .int w25, .int w26, .int w27, .ref g28, .ref g29, .int w30, .ref g31, .ref g32, .ref g33])), (g1, .inl (T 0, 282, .inl fa)), (g15, .inl (T 0, 10, .inl fh)), (g17, .inl (T 0, 94, .inl fk)), (g31, .inl (T 0, 4, .inl fq)), (g32, .inl (T 0, 4, .inl fm)), (g33, .inl (T 1, 160, .inr (.inl fn)))] H locs := V _ [] rfl rfl rfl (by decide +kernel) rfl
      show W p l e _ s m args below meth c H locs _ _ _ (F0 m 26 ls [.int (nI 1)])
      refine lv_if_ne (tgt := 32) hx hb dX8_judge_26 (by decide) (fun _ => ?_) (fun c => absurd (show (nI 1) = 0 from c) (by decide +kernel))
      refine lv_aload_n hx hb dX8_judge_32 rfl (lv_at hl 0 rfl) ?_
      refine g_get hC V (ci := 8) uwX8 0 rfl rfl 31 (by decide) w_943 rfl rfl dX8_judge_33 ?_
      refine lv_iload_n hx hb dX8_judge_36 rfl (lv_at hl 1 rfl) ?_
      refine g_iald hC V 4 rfl (vp_in_nI (by omega) (by omega)) (v := (fq r)) (congrArg _ (nI_clamp (by omega))) dX8_judge_37 ?_
      refine lv_iconst (v := (-1)) hx hb dX8_judge_38 (by decide +kernel) ?_
      refine lv_icmp_ne (tgt := 45) hx hb dX8_judge_39 (by decide) (fun c_7 => ?_) (fun c_7 => ?_)
      · skip
        have hq1 := c_7
        refine lv_aload_n hx hb dX8_judge_45 rfl (lv_at hl 0 rfl) ?_
        refine g_callVU (nA := 0) hC V hl.1 (m_keeps l D T o (nI 0) g1 g2 g3 g4 tp w6 w7 w8 w9 w10 w11 w12 w13 w14 g15 w16 g17 w18 w19 g20 w21 g22 g23 g24 w25 w26 w27 g28 g29 w30 g31 g32 g33 fa fk) w_1146 w_1148 w_s53 w_9 w_1149 (by decide +kernel) rfl ⟨(Nat.le_of_ble_eq_true rfl), (Nat.le_of_ble_eq_true rfl)⟩ 0 (ci := 8) rfl rfl [0, 1, 3] rfl rfl (Nat.le_of_ble_eq_true rfl) dX8_judge_46 ⟨(Nat.le_of_ble_eq_true rfl), (Nat.le_of_ble_eq_true rfl)⟩ rfl (fun r w1 H locs hQ V => ?_)
        obtain ⟨gk_8, rfl, rfl, f_9⟩ := hQ
        have V : gW D T A s [(o, .inr (8, [.int (nI 0), .ref g1, .ref g2, .ref g3, .ref g4, .int (nI tp), .int w6, .int w7, .int w8, .int w9, .int w10, .int w11, .int w12, .int w13, .int w14, .ref g15, .int w16, .ref g17, .int w18, .int w19, .ref g20, .int w21, .ref g22, .ref g23, .ref g24, .int w25, .int w26, .int w27, .ref g28, .ref g29, .int w30, .ref g31, .ref g32, .ref g33])), (g1, .inl (T 0, 282, .inl fa)), (g15, .inl (T 0, 10, .inl fh)), (g17, .inl (T 0, 94, .inl gk_8)), (g31, .inl (T 0, 4, .inl fq)), (g32, .inl (T 0, 4, .inl fm)), (g33, .inl (T 1, 160, .inr (.inl fn)))] H locs := V _ [0, 0, 1] rfl rfl rfl (by decide +kernel) rfl
        show W p l e _ s m args below meth c H locs _ _ _ (F0 m 49 ls [])
        refine lv_aload_n hx hb dX8_judge_49 rfl (lv_at hl 0 rfl) ?_
        refine lv_iload_n hx hb dX8_judge_50 rfl (lv_at hl 1 rfl) ?_
        refine g_callVU (nA := 1) hC V hl.1 (m_minutesOf_f l D T mz n o r (nI 0) g1 g2 g3 g4 tp w6 w7 w8 w9 w10 w11 w12 w13 w14 g15 w16 g17 w18 w19 g20 w21 g22 g23 g24 w25 w26 w27 g28 g29 w30 g31 g32 g33 fa fh fm fn h_a (by first | assumption | omega) (by first | assumption | omega) (by first | assumption | omega)) w_1150 w_1152 w_s54 w_9 w_1153 (by decide +kernel) rfl ⟨(Nat.le_of_ble_eq_true rfl), (Nat.le_of_ble_eq_true rfl)⟩ 0 (ci := 8) rfl rfl [0, 1, 2, 5, 6] rfl rfl (Nat.le_of_ble_eq_true rfl) dX8_judge_51 ⟨(Nat.le_of_ble_eq_true rfl), (Nat.le_of_ble_eq_true rfl)⟩ rfl (fun r w1 H locs hQ V => ?_)
        obtain ⟨z_10, bm_11, b2_12, b3_13, ga_14, gh_15, rfl, rfl, f_16, f_17, f_18, f_19, f_20, f_21⟩ := hQ
        have V : gW D T A s [(o, .inr (8, [.int (nI 0), .ref g1, .ref g2, .ref g3, .ref g4, .int (nI tp), .int w6, .int w7, .int w8, .int w9, .int w10, .int w11, .int w12, .int w13, .int w14, .ref g15, .int bm_11, .ref g17, .int b2_12, .int b3_13, .ref g20, .int w21, .ref g22, .ref g23, .ref g24, .int w25, .int w26, .int w27, .ref g28, .ref g29, .int w30, .ref g31, .ref g32, .ref g33])), (g1, .inl (T 0, 282, .inl ga_14)), (g15, .inl (T 0, 10, .inl gh_15)), (g17, .inl (T 0, 94, .inl gk_8)), (g31, .inl (T 0, 4, .inl fq)), (g32, .inl (T 0, 4, .inl fm)), (g33, .inl (T 1, 160, .inr (.inl fn)))] H locs := V _ [0, 0, 0, 2, 0] rfl rfl rfl (by decide +kernel) rfl
        show W p l e _ s m args below meth c H locs _ _ _ (F0 m 54 ls [.int z_10])
        have hga_14 : MS n fa ga_14 := ms_tr (by assumption) f_16
        refine lv_istore_n (lv' := [(3, .int z_10), (0, .ref o), (1, .int (nI r)), (2, .int wh)]) hx hb dX8_judge_54 rfl hl (by decide) rfl (fun ls hl => ?_)
        refine lv_aload_n hx hb dX8_judge_55 rfl (lv_at hl 1 rfl) ?_
        refine g_callVU (nA := 0) hC V hl.1 (m_doneMany_f l D T n o (nI 0) g1 g2 g3 g4 tp w6 w7 w8 w9 w10 w11 w12 w13 w14 g15 bm_11 g17 b2_12 b3_13 g20 w21 g22 g23 g24 w25 w26 w27 g28 g29 w30 g31 g32 g33 ga_14 hga_14.1) w_1158 w_1160 w_s56 w_9 w_1161 (by decide +kernel) rfl ⟨(Nat.le_of_ble_eq_true rfl), (Nat.le_of_ble_eq_true rfl)⟩ 0 (ci := 8) rfl rfl [0, 1] rfl rfl (Nat.le_of_ble_eq_true rfl) dX8_judge_56 ⟨(Nat.le_of_ble_eq_true rfl), (Nat.le_of_ble_eq_true rfl)⟩ rfl (fun r w1 H locs hQ V => ?_)
        obtain ⟨z_22, rfl, rfl, f_23⟩ := hQ
        have V : gW D T A s [(o, .inr (8, [.int (nI 0), .ref g1, .ref g2, .ref g3, .ref g4, .int (nI tp), .int w6, .int w7, .int w8, .int w9, .int w10, .int w11, .int w12, .int w13, .int w14, .ref g15, .int bm_11, .ref g17, .int b2_12, .int b3_13, .ref g20, .int w21, .ref g22, .ref g23, .ref g24, .int w25, .int w26, .int w27, .ref g28, .ref g29, .int w30, .ref g31, .ref g32, .ref g33])), (g1, .inl (T 0, 282, .inl ga_14)), (g15, .inl (T 0, 10, .inl gh_15)), (g17, .inl (T 0, 94, .inl gk_8)), (g31, .inl (T 0, 4, .inl fq)), (g32, .inl (T 0, 4, .inl fm)), (g33, .inl (T 1, 160, .inr (.inl fn)))] H locs := V _ [0, 0] rfl rfl rfl (by decide +kernel) rfl
        show W p l e _ s m args below meth c H locs _ _ _ (F0 m 59 ls [.int z_22])
        refine lv_istore (lv' := [(4, .int z_22), (3, .int z_10), (0, .ref o), (1, .int (nI r)), (2, .int wh)]) hx hb dX8_judge_59 hl (by decide) rfl (fun ls hl => ?_)
        refine lv_aload_n hx hb dX8_judge_61 rfl (lv_at hl 2 rfl) ?_
        refine g_callVU (nA := 0) hC V hl.1 (m_isAgain l D T o (nI 0) g1 g2 g3 g4 tp w6 w7 w8 w9 w10 w11 w12 w13 w14 g15 bm_11 g17 b2_12 b3_13 g20 w21 g22 g23 g24 w25 w26 w27 g28 g29 w30 g31 g32 g33 ga_14 gk_8) w_1162 w_1164 w_s57 w_9 w_1165 (by decide +kernel) rfl ⟨(Nat.le_of_ble_eq_true rfl), (Nat.le_of_ble_eq_true rfl)⟩ 0 (ci := 8) rfl rfl [0, 1, 3] rfl rfl (Nat.le_of_ble_eq_true rfl) dX8_judge_62 ⟨(Nat.le_of_ble_eq_true rfl), (Nat.le_of_ble_eq_true rfl)⟩ rfl (fun r w1 H locs hQ V => ?_)
        obtain ⟨ga_24, rfl, rfl, f_25, f_26⟩ := hQ
        have V : gW D T A s [(o, .inr (8, [.int (nI 0), .ref g1, .ref g2, .ref g3, .ref g4, .int (nI tp), .int w6, .int w7, .int w8, .int w9, .int w10, .int w11, .int w12, .int w13, .int w14, .ref g15, .int bm_11, .ref g17, .int b2_12, .int b3_13, .ref g20, .int w21, .ref g22, .ref g23, .ref g24, .int w25, .int w26, .int w27, .ref g28, .ref g29, .int w30, .ref g31, .ref g32, .ref g33])), (g1, .inl (T 0, 282, .inl ga_24)), (g15, .inl (T 0, 10, .inl gh_15)), (g17, .inl (T 0, 94, .inl gk_8)), (g31, .inl (T 0, 4, .inl fq)), (g32, .inl (T 0, 4, .inl fm)), (g33, .inl (T 1, 160, .inr (.inl fn)))] H locs := V _ [0, 0, 1] rfl rfl rfl (by decide +kernel) rfl
        show W p l e _ s m args below meth c H locs _ _ _ (F0 m 65 ls [])
        have ega_24 : ga_24 = fa := funext (fun j => if h : j < 94 then (f_25 j h).trans (f_9 j h) else (f_26 j (by omega)).trans ((by assumption : MS n fa _).2 j (by omega)))
        rw [ega_24] at V
        refine lv_iload_n hx hb dX8_judge_65 rfl (lv_at hl 4 rfl) ?_
        refine lv_if_ne (tgt := 84) hx hb dX8_judge_66 (by decide) (fun c_27 => ?_) (fun c_27 => ?_)
        · skip
          refine lv_iload_n hx hb dX8_judge_84 rfl (lv_at hl 4 rfl) ?_
          refine lv_iconst (v := (nI 1)) hx hb dX8_judge_85 (by decide +kernel) ?_
          refine lv_icmp_ne (tgt := 96) hx hb dX8_judge_86 (by decide) (fun c_28 => ?_) (fun c_28 => ?_)
          · skip
            refine lv_iload_n hx hb dX8_judge_96 rfl (lv_at hl 4 rfl) ?_
            refine lv_iconst (v := (nI 2)) hx hb dX8_judge_97 (by decide +kernel) ?_
            refine lv_icmp_ne (tgt := 108) hx hb dX8_judge_98 (by decide) (fun c_29 => ?_) (fun c_29 => ?_)
            · skip
              refine lv_iload_n hx hb dX8_judge_108 rfl (lv_at hl 4 rfl) ?_
              refine lv_iconst (v := (nI 3)) hx hb dX8_judge_109 (by decide +kernel) ?_
              refine lv_icmp_ne (tgt := 118) hx hb dX8_judge_110 (by decide) (fun c_30 => ?_) (fun c_30 => ?_)
              · skip
                refine lv_aload_n hx hb dX8_judge_118 rfl (lv_at hl 2 rfl) ?_
                refine g_get hC V (ci := 8) uwX8 0 rfl rfl 16 (by decide) w_928 rfl rfl dX8_judge_119 ?_
                exact g_iret (Qr := (q_m_judge_f T n o row wh w0 g1 g2 g3 g4 tp w6 w7 w8 w9 w10 w11 w12 w13 w14 g15 w16 g17 w18 w19 g20 w21 g22 g23 g24 w25 w26 w27 g28 g29 w30 g31 g32 g33 fa fh fk fq fm fn)) hC V ⟨(Nat.le_of_ble_eq_true rfl), (Nat.le_of_ble_eq_true rfl)⟩ ⟨bm_11, bm_11, b2_12, b3_13, gh_15, gk_8, rfl, rfl, (Eq.trans (f_21.trans (jv_4 c_27 c_28 c_29 c_30)) (jd_y (n := n) (f := fa) (fn := fn) er (by omega) f_4 f_5 hq1 emz (by omega)))⟩ dX8_judge_122
              · skip
                refine lv_iload hx hb dX8_judge_113 (lv_at hl 0 rfl) ?_
                refine lv_goto (tgt := 122) hx hb dX8_judge_115 (by decide) ?_
                exact g_iret (Qr := (q_m_judge_f T n o row wh w0 g1 g2 g3 g4 tp w6 w7 w8 w9 w10 w11 w12 w13 w14 g15 w16 g17 w18 w19 g20 w21 g22 g23 g24 w25 w26 w27 g28 g29 w30 g31 g32 g33 fa fh fk fq fm fn)) hC V ⟨(Nat.le_of_ble_eq_true rfl), (Nat.le_of_ble_eq_true rfl)⟩ ⟨z_22, bm_11, b2_12, b3_13, gh_15, gk_8, rfl, rfl, (Eq.trans ((by rw [f_23, f_18]; done : _ = donF (tlI n fa (fun i => fn (40 * r + i)) (tlE n fa (fun i => fn (40 * r + i)) mz 42 0).1) n).trans (jv_3 c_30)) (jd_y (n := n) (f := fa) (fn := fn) er (by omega) f_4 f_5 hq1 emz (by omega)))⟩ dX8_judge_122
            · skip
              refine lv_aload_n hx hb dX8_judge_101 rfl (lv_at hl 2 rfl) ?_
              refine g_get hC V (ci := 8) uwX8 0 rfl rfl 19 (by decide) w_931 rfl rfl dX8_judge_102 ?_
              refine lv_goto (tgt := 122) hx hb dX8_judge_105 (by decide) ?_
              exact g_iret (Qr := (q_m_judge_f T n o row wh w0 g1 g2 g3 g4 tp w6 w7 w8 w9 w10 w11 w12 w13 w14 g15 w16 g17 w18 w19 g20 w21 g22 g23 g24 w25 w26 w27 g28 g29 w30 g31 g32 g33 fa fh fk fq fm fn)) hC V ⟨(Nat.le_of_ble_eq_true rfl), (Nat.le_of_ble_eq_true rfl)⟩ ⟨b3_13, bm_11, b2_12, b3_13, gh_15, gk_8, rfl, rfl, (Eq.trans (f_20.trans (jv_2 c_29)) (jd_y (n := n) (f := fa) (fn := fn) er (by omega) f_4 f_5 hq1 emz (by omega)))⟩ dX8_judge_122
          · skip
            refine lv_aload_n hx hb dX8_judge_89 rfl (lv_at hl 2 rfl) ?_
            refine g_get hC V (ci := 8) uwX8 0 rfl rfl 18 (by decide) w_930 rfl rfl dX8_judge_90 ?_
            refine lv_goto (tgt := 122) hx hb dX8_judge_93 (by decide) ?_
            exact g_iret (Qr := (q_m_judge_f T n o row wh w0 g1 g2 g3 g4 tp w6 w7 w8 w9 w10 w11 w12 w13 w14 g15 w16 g17 w18 w19 g20 w21 g22 g23 g24 w25 w26 w27 g28 g29 w30 g31 g32 g33 fa fh fk fq fm fn)) hC V ⟨(Nat.le_of_ble_eq_true rfl), (Nat.le_of_ble_eq_true rfl)⟩ ⟨b2_12, bm_11, b2_12, b3_13, gh_15, gk_8, rfl, rfl, (Eq.trans (f_19.trans (jv_1 c_28)) (jd_y (n := n) (f := fa) (fn := fn) er (by omega) f_4 f_5 hq1 emz (by omega)))⟩ dX8_judge_122
        · skip
          refine lv_aload_n hx hb dX8_judge_69 rfl (lv_at hl 2 rfl) ?_
          refine g_get hC V (ci := 8) uwX8 0 rfl rfl 18 (by decide) w_930 rfl rfl dX8_judge_70 ?_
          refine lv_if_ne (tgt := 80) hx hb dX8_judge_73 (by decide) (fun c_31 => ?_) (fun c_31 => ?_)
          · skip
            refine lv_iload_n hx hb dX8_judge_80 rfl (lv_at hl 1 rfl) ?_
            refine lv_goto (tgt := 122) hx hb dX8_judge_81 (by decide) ?_
            exact g_iret (Qr := (q_m_judge_f T n o row wh w0 g1 g2 g3 g4 tp w6 w7 w8 w9 w10 w11 w12 w13 w14 g15 w16 g17 w18 w19 g20 w21 g22 g23 g24 w25 w26 w27 g28 g29 w30 g31 g32 g33 fa fh fk fq fm fn)) hC V ⟨(Nat.le_of_ble_eq_true rfl), (Nat.le_of_ble_eq_true rfl)⟩ ⟨z_10, bm_11, b2_12, b3_13, gh_15, gk_8, rfl, rfl, (Eq.trans (f_17.trans (jv_0b c_27 f_19 c_31)) (jd_y (n := n) (f := fa) (fn := fn) er (by omega) f_4 f_5 hq1 emz (by omega)))⟩ dX8_judge_122
          · skip
            refine lv_iconst (v := (-1)) hx hb dX8_judge_76 (by decide +kernel) ?_
            refine lv_goto (tgt := 122) hx hb dX8_judge_77 (by decide) ?_
            exact g_iret (Qr := (q_m_judge_f T n o row wh w0 g1 g2 g3 g4 tp w6 w7 w8 w9 w10 w11 w12 w13 w14 g15 w16 g17 w18 w19 g20 w21 g22 g23 g24 w25 w26 w27 g28 g29 w30 g31 g32 g33 fa fh fk fq fm fn)) hC V ⟨(Nat.le_of_ble_eq_true rfl), (Nat.le_of_ble_eq_true rfl)⟩ ⟨(-1), bm_11, b2_12, b3_13, gh_15, gk_8, rfl, rfl, (Eq.trans (jv_0a c_27 f_19 c_31) (jd_y (n := n) (f := fa) (fn := fn) er (by omega) f_4 f_5 hq1 emz (by omega)))⟩ dX8_judge_122
      · skip
        have hq0 := c_7
        refine lv_bipush (v := (-6)) hx hb dX8_judge_42 (by decide +kernel) ?_
        exact g_iret (Qr := (q_m_judge_f T n o row wh w0 g1 g2 g3 g4 tp w6 w7 w8 w9 w10 w11 w12 w13 w14 g15 w16 g17 w18 w19 g20 w21 g22 g23 g24 w25 w26 w27 g28 g29 w30 g31 g32 g33 fa fh fk fq fm fn)) hC V ⟨(Nat.le_of_ble_eq_true rfl), (Nat.le_of_ble_eq_true rfl)⟩ ⟨(-6), w16, w18, w19, fh, fk, rfl, rfl, (jd_6 er (by omega) f_4 f_5 hq0)⟩ dX8_judge_44
    · have V : gW D T A s [(o, .inr (8, [.int (nI 0), .ref g1, .ref g2, .ref g3, .ref g4, .int (nI tp), .int w6, .int w7, .int w8, .int w9, .int w10, .int w11, .int w12, .int w13, .int w14, .ref g15, .int w16, .ref g17, .int w18, .int w19, .ref g20, .int w21, .ref g22, .ref g23, .ref g24, .int w25, .int w26, .int w27, .ref g28, .ref g29, .int w30, .ref g31, .ref g32, .ref g33])), (g1, .inl (T 0, 282, .inl fa)), (g15, .inl (T 0, 10, .inl fh)), (g17, .inl (T 0, 94, .inl fk)), (g31, .inl (T 0, 4, .inl fq)), (g32, .inl (T 0, 4, .inl fm)), (g33, .inl (T 1, 160, .inr (.inl fn)))] H locs := V _ [] rfl rfl rfl (by decide +kernel) rfl
      show W p l e _ s m args below meth c H locs _ _ _ (F0 m 26 ls [.int (nI 0)])
      refine lv_if_ne (tgt := 32) hx hb dX8_judge_26 (by decide) (fun c => absurd (show (nI 0) = 0 by decide +kernel) c) (fun _ => ?_)
      refine lv_bipush (v := (-2)) hx hb dX8_judge_29 (by decide +kernel) ?_
      exact g_iret (Qr := (q_m_judge_f T n o row wh w0 g1 g2 g3 g4 tp w6 w7 w8 w9 w10 w11 w12 w13 w14 g15 w16 g17 w18 w19 g20 w21 g22 g23 g24 w25 w26 w27 g28 g29 w30 g31 g32 g33 fa fh fk fq fm fn)) hC V ⟨(Nat.le_of_ble_eq_true rfl), (Nat.le_of_ble_eq_true rfl)⟩ ⟨(-2), w16, w18, w19, fh, fk, rfl, rfl, (jd_w f_6)⟩ dX8_judge_31
  · have V : gW D T A s [(o, .inr (8, [.int (nI 0), .ref g1, .ref g2, .ref g3, .ref g4, .int (nI tp), .int w6, .int w7, .int w8, .int w9, .int w10, .int w11, .int w12, .int w13, .int w14, .ref g15, .int w16, .ref g17, .int w18, .int w19, .ref g20, .int w21, .ref g22, .ref g23, .ref g24, .int w25, .int w26, .int w27, .ref g28, .ref g29, .int w30, .ref g31, .ref g32, .ref g33])), (g1, .inl (T 0, 282, .inl fa)), (g15, .inl (T 0, 10, .inl fh)), (g17, .inl (T 0, 94, .inl fk)), (g31, .inl (T 0, 4, .inl fq)), (g32, .inl (T 0, 4, .inl fm)), (g33, .inl (T 1, 160, .inr (.inl fn)))] H locs := V _ [] rfl rfl rfl (by decide +kernel) rfl
    show W p l e _ s m args below meth c H locs _ _ _ (F0 m 14 ls [.int (nI 0)])
    have r0 : (row < 0 ∨ nI 4 ≤ row) := nv_r rfl (by decide) f_3
    refine lv_if_eq (tgt := 29) hx hb dX8_judge_14 (by decide) (fun _ => ?_) (fun c => absurd (show (nI 0) = 0 by decide +kernel) c)
    refine lv_bipush (v := (-2)) hx hb dX8_judge_29 (by decide +kernel) ?_
    exact g_iret (Qr := (q_m_judge_f T n o row wh w0 g1 g2 g3 g4 tp w6 w7 w8 w9 w10 w11 w12 w13 w14 g15 w16 g17 w18 w19 g20 w21 g22 g23 g24 w25 w26 w27 g28 g29 w30 g31 g32 g33 fa fh fk fq fm fn)) hC V ⟨(Nat.le_of_ble_eq_true rfl), (Nat.le_of_ble_eq_true rfl)⟩ ⟨(-2), w16, w18, w19, fh, fk, rfl, rfl, (jd_r r0)⟩ dX8_judge_31
