def q_f_isSmall (T : Nat → ClassId) (x : Int32) : Option Value → va_W → Prop := fun rr ww => (rr = some (.int (nI 1)) ∧ ww = [] ∧ smB x = true) ∨ (rr = some (.int (nI 0)) ∧ ww = [] ∧ ¬ smB x = true)
set_option maxHeartbeats 4000000 in
set_option maxRecDepth 100000 in
theorem f_isSmall (l : Launch) (D : va_G) (T : Nat → ClassId) (x : Int32) : Ct l yX8_isSmall cX8_isSmall 1 (some .boolean) 0 0 0 D T [.int x] [] (q_f_isSmall T x) := by
  refine Ct.of (cc := cX8_isSmall) (maxL := 1) (ret := (some .boolean)) (by decide) (Nat.le_of_ble_eq_true rfl) ?_
  intro p e s m args below meth c A ls hC hnm V hl
  obtain ⟨hx, hb, hr, hml, hown, hts, hlocks⟩ := id hC
  generalize hH : s.heap = H at V ⊢
  clear hH
  have hl : lv_has ls 1 [(0, .int x)] := hl
  generalize hlo : ([] : List Loc) = locs at V ⊢
  clear hlo
  refine lv_iload_n hx hb dX8_isSmall_0 rfl (lv_at hl 0 rfl) ?_
  refine lv_bipush (v := (nI 97)) hx hb dX8_isSmall_1 (by decide +kernel) ?_
  refine lv_icmp_lt (tgt := 16) hx hb dX8_isSmall_3 (by decide) (fun c_1 => ?_) (fun c_1 => ?_)
  · skip
    refine lv_iconst (v := (nI 0)) hx hb dX8_isSmall_16 (by decide +kernel) ?_
    exact g_zret (Qr := (q_f_isSmall T x)) hC V ⟨(Nat.le_of_ble_eq_true rfl), (Nat.le_of_ble_eq_true rfl)⟩ (by first | decide +kernel | exact rfl) (.inr ⟨rfl, rfl, (by simp only [smB, Bool.and_eq_true, decide_eq_true_eq]; first | exact ⟨by assumption, by assumption⟩ | exact fun h => h.1 (by assumption) | exact fun h => h.2 (by assumption))⟩) dX8_isSmall_17
  · skip
    refine lv_iload_n hx hb dX8_isSmall_6 rfl (lv_at hl 0 rfl) ?_
    refine lv_bipush (v := (nI 122)) hx hb dX8_isSmall_7 (by decide +kernel) ?_
    refine lv_icmp_gt (tgt := 16) hx hb dX8_isSmall_9 (by decide) (fun c_2 => ?_) (fun c_2 => ?_)
    · skip
      refine lv_iconst (v := (nI 0)) hx hb dX8_isSmall_16 (by decide +kernel) ?_
      exact g_zret (Qr := (q_f_isSmall T x)) hC V ⟨(Nat.le_of_ble_eq_true rfl), (Nat.le_of_ble_eq_true rfl)⟩ (by first | decide +kernel | exact rfl) (.inr ⟨rfl, rfl, (by simp only [smB, Bool.and_eq_true, decide_eq_true_eq]; first | exact ⟨by assumption, by assumption⟩ | exact fun h => h.1 (by assumption) | exact fun h => h.2 (by assumption))⟩) dX8_isSmall_17
    · skip
      refine lv_iconst (v := (nI 1)) hx hb dX8_isSmall_12 (by decide +kernel) ?_
      refine lv_goto (tgt := 17) hx hb dX8_isSmall_13 (by decide) ?_
      exact g_zret (Qr := (q_f_isSmall T x)) hC V ⟨(Nat.le_of_ble_eq_true rfl), (Nat.le_of_ble_eq_true rfl)⟩ (by first | decide +kernel | exact rfl) (.inl ⟨rfl, rfl, (by simp only [smB, Bool.and_eq_true, decide_eq_true_eq]; first | exact ⟨by assumption, by assumption⟩ | exact fun h => h.1 (by assumption) | exact fun h => h.2 (by assumption))⟩) dX8_isSmall_17

def q_f_isDigit (T : Nat → ClassId) (x : Int32) : Option Value → va_W → Prop := fun rr ww => (rr = some (.int (nI 1)) ∧ ww = [] ∧ dgB x = true) ∨ (rr = some (.int (nI 0)) ∧ ww = [] ∧ ¬ dgB x = true)
set_option maxHeartbeats 4000000 in
set_option maxRecDepth 100000 in
theorem f_isDigit (l : Launch) (D : va_G) (T : Nat → ClassId) (x : Int32) : Ct l yX8_isDigit cX8_isDigit 1 (some .boolean) 0 0 0 D T [.int x] [] (q_f_isDigit T x) := by
  refine Ct.of (cc := cX8_isDigit) (maxL := 1) (ret := (some .boolean)) (by decide) (Nat.le_of_ble_eq_true rfl) ?_
  intro p e s m args below meth c A ls hC hnm V hl
  obtain ⟨hx, hb, hr, hml, hown, hts, hlocks⟩ := id hC
  generalize hH : s.heap = H at V ⊢
  clear hH
  have hl : lv_has ls 1 [(0, .int x)] := hl
  generalize hlo : ([] : List Loc) = locs at V ⊢
  clear hlo
  refine lv_iload_n hx hb dX8_isDigit_0 rfl (lv_at hl 0 rfl) ?_
  refine lv_bipush (v := (nI 48)) hx hb dX8_isDigit_1 (by decide +kernel) ?_
  refine lv_icmp_lt (tgt := 16) hx hb dX8_isDigit_3 (by decide) (fun c_1 => ?_) (fun c_1 => ?_)
  · skip
    refine lv_iconst (v := (nI 0)) hx hb dX8_isDigit_16 (by decide +kernel) ?_
    exact g_zret (Qr := (q_f_isDigit T x)) hC V ⟨(Nat.le_of_ble_eq_true rfl), (Nat.le_of_ble_eq_true rfl)⟩ (by first | decide +kernel | exact rfl) (.inr ⟨rfl, rfl, (by simp only [dgB, Bool.and_eq_true, decide_eq_true_eq]; first | exact ⟨by assumption, by assumption⟩ | exact fun h => h.1 (by assumption) | exact fun h => h.2 (by assumption))⟩) dX8_isDigit_17
  · skip
    refine lv_iload_n hx hb dX8_isDigit_6 rfl (lv_at hl 0 rfl) ?_
    refine lv_bipush (v := (nI 57)) hx hb dX8_isDigit_7 (by decide +kernel) ?_
    refine lv_icmp_gt (tgt := 16) hx hb dX8_isDigit_9 (by decide) (fun c_2 => ?_) (fun c_2 => ?_)
    · skip
      refine lv_iconst (v := (nI 0)) hx hb dX8_isDigit_16 (by decide +kernel) ?_
      exact g_zret (Qr := (q_f_isDigit T x)) hC V ⟨(Nat.le_of_ble_eq_true rfl), (Nat.le_of_ble_eq_true rfl)⟩ (by first | decide +kernel | exact rfl) (.inr ⟨rfl, rfl, (by simp only [dgB, Bool.and_eq_true, decide_eq_true_eq]; first | exact ⟨by assumption, by assumption⟩ | exact fun h => h.1 (by assumption) | exact fun h => h.2 (by assumption))⟩) dX8_isDigit_17
    · skip
      refine lv_iconst (v := (nI 1)) hx hb dX8_isDigit_12 (by decide +kernel) ?_
      refine lv_goto (tgt := 17) hx hb dX8_isDigit_13 (by decide) ?_
      exact g_zret (Qr := (q_f_isDigit T x)) hC V ⟨(Nat.le_of_ble_eq_true rfl), (Nat.le_of_ble_eq_true rfl)⟩ (by first | decide +kernel | exact rfl) (.inl ⟨rfl, rfl, (by simp only [dgB, Bool.and_eq_true, decide_eq_true_eq]; first | exact ⟨by assumption, by assumption⟩ | exact fun h => h.1 (by assumption) | exact fun h => h.2 (by assumption))⟩) dX8_isDigit_17

def q_m_keyAt_f (T : Nat → ClassId) (o : Nat) (w0 : Int32) (g1 : Nat) (g2 : Nat) (g3 : Nat) (g4 : Nat) (tp : Nat) (at_ : Nat) (be : Nat) (sz : Nat) (w9 : Int32) (w10 : Int32) (w11 : Int32) (w12 : Int32) (w13 : Int32) (w14 : Int32) (g15 : Nat) (w16 : Int32) (g17 : Nat) (w18 : Int32) (w19 : Int32) (g20 : Nat) (w21 : Int32) (g22 : Nat) (g23 : Nat) (g24 : Nat) (w25 : Int32) (w26 : Int32) (w27 : Int32) (g28 : Nat) (g29 : Nat) (w30 : Int32) (g31 : Nat) (g32 : Nat) (g33 : Nat) (ft : Nat → Int32) : Option Value → va_W → Prop := fun rr ww => (∃ (z : Nat), rr = some (.int (nI z)) ∧ ww = [(o, .inr (8, [.int w0, .ref g1, .ref g2, .ref g3, .ref g4, .int (nI tp), .int (nI at_), .int (nI be), .int (nI sz), .int w9, .int w10, .int w11, .int w12, .int w13, .int w14, .ref g15, .int w16, .ref g17, .int w18, .int w19, .ref g20, .int w21, .ref g22, .ref g23, .ref g24, .int w25, .int w26, .int w27, .ref g28, .ref g29, .int w30, .ref g31, .ref g32, .ref g33])), (g3, .inl (T 0, 900, .inl ft))] ∧ z = keyOf ft at_ be)
set_option maxHeartbeats 4000000 in
set_option maxRecDepth 100000 in
theorem m_keyAt_f (l : Launch) (D : va_G) (T : Nat → ClassId) (o : Nat) (w0 : Int32) (g1 : Nat) (g2 : Nat) (g3 : Nat) (g4 : Nat) (tp : Nat) (at_ : Nat) (be : Nat) (sz : Nat) (w9 : Int32) (w10 : Int32) (w11 : Int32) (w12 : Int32) (w13 : Int32) (w14 : Int32) (g15 : Nat) (w16 : Int32) (g17 : Nat) (w18 : Int32) (w19 : Int32) (g20 : Nat) (w21 : Int32) (g22 : Nat) (g23 : Nat) (g24 : Nat) (w25 : Int32) (w26 : Int32) (w27 : Int32) (g28 : Nat) (g29 : Nat) (w30 : Int32) (g31 : Nat) (g32 : Nat) (g33 : Nat) (ft : Nat → Int32) (h_sz : sz ≤ 900) (h_ab : at_ ≤ be ∧ be ≤ sz) : Ct l yX8_keyAt cX8_keyAt 4 (some .int) 4 0 0 D T [.ref o] [(o, .inr (8, [.int w0, .ref g1, .ref g2, .ref g3, .ref g4, .int (nI tp), .int (nI at_), .int (nI be), .int (nI sz), .int w9, .int w10, .int w11, .int w12, .int w13, .int w14, .ref g15, .int w16, .ref g17, .int w18, .int w19, .ref g20, .int w21, .ref g22, .ref g23, .ref g24, .int w25, .int w26, .int w27, .ref g28, .ref g29, .int w30, .ref g31, .ref g32, .ref g33])), (g3, .inl (T 0, 900, .inl ft))] (q_m_keyAt_f T o w0 g1 g2 g3 g4 tp at_ be sz w9 w10 w11 w12 w13 w14 g15 w16 g17 w18 w19 g20 w21 g22 g23 g24 w25 w26 w27 g28 g29 w30 g31 g32 g33 ft) := by
  refine Ct.of (cc := cX8_keyAt) (maxL := 4) (ret := (some .int)) (by decide) (Nat.le_of_ble_eq_true rfl) ?_
  intro p e s m args below meth c A ls hC hnm V hl
  obtain ⟨hx, hb, hr, hml, hown, hts, hlocks⟩ := id hC
  generalize hH : s.heap = H at V ⊢
  clear hH
  have hl : lv_has ls 4 [(0, .ref o)] := hl
  generalize hlo : ([] : List Loc) = locs at V ⊢
  clear hlo
  have hs8 : sLen.getD 8 0 = 44 := rfl
  refine lv_iconst (v := (nI 0)) hx hb dX8_keyAt_0 (by decide +kernel) ?_
  refine lv_istore_n (lv' := [(1, .int (nI 0)), (0, .ref o)]) hx hb dX8_keyAt_1 rfl hl (by decide) rfl (fun ls hl => ?_)
  refine lv_iconst (v := (nI 1)) hx hb dX8_keyAt_2 (by decide +kernel) ?_
  refine lv_istore_n (lv' := [(2, .int (nI 1)), (1, .int (nI 0)), (0, .ref o)]) hx hb dX8_keyAt_3 rfl hl (by decide) rfl (fun ls hl => ?_)
  have L_1 : ∀ (fu : Nat) (nq : Nat) (kk : Nat), nq ≤ 8 → kk = wst nq → (∀ m, m < nq → ¬ wMt ft at_ be m) → 9 - nq < fu → ∀ (H : Heap) (locs : List Loc) (ls : Array Slot), gW D T A s [(o, .inr (8, [.int w0, .ref g1, .ref g2, .ref g3, .ref g4, .int (nI tp), .int (nI at_), .int (nI be), .int (nI sz), .int w9, .int w10, .int w11, .int w12, .int w13, .int w14, .ref g15, .int w16, .ref g17, .int w18, .int w19, .ref g20, .int w21, .ref g22, .ref g23, .ref g24, .int w25, .int w26, .int w27, .ref g28, .ref g29, .int w30, .ref g31, .ref g32, .ref g33])), (g3, .inl (T 0, 900, .inl ft))] H locs → lv_has ls 4 [(2, .int (nI kk)), (1, .int (nI nq)), (0, .ref o)] → W p l e (rmD 4 0 0) s m args below meth c H locs 0 0 (MQ below (gQ D A (q_m_keyAt_f T o w0 g1 g2 g3 g4 tp at_ be sz w9 w10 w11 w12 w13 w14 g15 w16 g17 w18 w19 g20 w21 g22 g23 g24 w25 w26 w27 g28 g29 w30 g31 g32 g33 ft)) args s 0 0 A) (F0 m 4 ls []) := by
    intro fu_4
    induction fu_4 with
    | zero => intro nq kk hnq hkk hno hmu; exact absurd hmu (Nat.not_lt_zero _)
    | succ fu_4 ih_4 =>
      intro nq kk hnq hkk hno hmu_4 H locs ls V hl
      have hk8 := ky_8 hnq
      refine lv_iload_n hx hb dX8_keyAt_4 rfl (lv_at hl 0 rfl) ?_
      refine g_ldcS hC V 8 rfl dX8_keyAt_5 ?_
      refine g_callZU (nA := 0) hC V hl.1 (z_length l D T 8 (by decide)) w_1042 w_327 w_328 w_12 w_329 (by decide +kernel) rfl ⟨(Nat.le_of_ble_eq_true rfl), (Nat.le_of_ble_eq_true rfl)⟩ (si := 8) (by first | assumption | decide) rfl rfl [] rfl rfl (Nat.le_of_ble_eq_true rfl) dX8_keyAt_7 ⟨(Nat.le_of_ble_eq_true rfl), (Nat.le_of_ble_eq_true rfl)⟩ rfl (fun r w1 H locs hQ V => ?_)
      obtain ⟨rfl, rfl⟩ := hQ
      have V : gW D T A s [(o, .inr (8, [.int w0, .ref g1, .ref g2, .ref g3, .ref g4, .int (nI tp), .int (nI at_), .int (nI be), .int (nI sz), .int w9, .int w10, .int w11, .int w12, .int w13, .int w14, .ref g15, .int w16, .ref g17, .int w18, .int w19, .ref g20, .int w21, .ref g22, .ref g23, .ref g24, .int w25, .int w26, .int w27, .ref g28, .ref g29, .int w30, .ref g31, .ref g32, .ref g33])), (g3, .inl (T 0, 900, .inl ft))] H locs := V _ [] rfl rfl rfl (by decide +kernel) rfl
      show W p l e _ s m args below meth c H locs _ _ _ (F0 m 10 ls [.int (nI (sLen.getD 8 0)), .int (nI kk)])
      refine lv_icmp_ge (tgt := 123) hx hb dX8_keyAt_10 (by decide) (fun c_2 => ?_) (fun c_2 => ?_)
      · skip
        have c_2 := b_le (by omega) (by omega) c_2
        refine lv_bipush (v := (nI 8)) hx hb dX8_keyAt_123 (by decide +kernel) ?_
        exact g_iret (Qr := (q_m_keyAt_f T o w0 g1 g2 g3 g4 tp at_ be sz w9 w10 w11 w12 w13 w14 g15 w16 g17 w18 w19 g20 w21 g22 g23 g24 w25 w26 w27 g28 g29 w30 g31 g32 g33 ft)) hC V ⟨(Nat.le_of_ble_eq_true rfl), (Nat.le_of_ble_eq_true rfl)⟩ ⟨8, rfl, rfl, (keyOf_no (fun i hi => hno i (by have := ky_8 hnq; omega))).symm⟩ dX8_keyAt_125
      · skip
        have c_2 := b_nle (by omega) (by omega) c_2
        have hn8 : nq < 8 := ky_l8 hnq hkk (by omega)
        obtain ⟨hq1, hq2, hq3⟩ := ky_nx hn8
        refine lv_iconst (v := (nI 0)) hx hb dX8_keyAt_13 (by decide +kernel) ?_
        refine lv_istore_n (lv' := [(3, .int (nI 0)), (2, .int (nI kk)), (1, .int (nI nq)), (0, .ref o)]) hx hb dX8_keyAt_14 rfl hl (by decide) rfl (fun ls hl => ?_)
        have L_3 : ∀ (fu : Nat) (ki : Nat), ki ≤ sLen.getD nq 0 → at_ + ki ≤ be → (∀ j, j < ki → ft (at_ + j) = sch nq j) → sLen.getD nq 0 - ki < fu → ∀ (H : Heap) (locs : List Loc) (ls : Array Slot), gW D T A s [(o, .inr (8, [.int w0, .ref g1, .ref g2, .ref g3, .ref g4, .int (nI tp), .int (nI at_), .int (nI be), .int (nI sz), .int w9, .int w10, .int w11, .int w12, .int w13, .int w14, .ref g15, .int w16, .ref g17, .int w18, .int w19, .ref g20, .int w21, .ref g22, .ref g23, .ref g24, .int w25, .int w26, .int w27, .ref g28, .ref g29, .int w30, .ref g31, .ref g32, .ref g33])), (g3, .inl (T 0, 900, .inl ft))] H locs → lv_has ls 4 [(3, .int (nI ki)), (2, .int (nI kk)), (1, .int (nI nq)), (0, .ref o)] → W p l e (rmD 4 0 0) s m args below meth c H locs 0 0 (MQ below (gQ D A (q_m_keyAt_f T o w0 g1 g2 g3 g4 tp at_ be sz w9 w10 w11 w12 w13 w14 g15 w16 g17 w18 w19 g20 w21 g22 g23 g24 w25 w26 w27 g28 g29 w30 g31 g32 g33 ft)) args s 0 0 A) (F0 m 15 ls []) := by
          intro fu_15
          induction fu_15 with
          | zero => intro ki hki hab2 hmt hmu; exact absurd hmu (Nat.not_lt_zero _)
          | succ fu_15 ih_15 =>
            intro ki hki hab2 hmt hmu_15 H locs ls V hl
            refine g_ldcS hC V 8 rfl dX8_keyAt_15 ?_
            refine lv_iload_n hx hb dX8_keyAt_17 rfl (lv_at hl 1 rfl) ?_
            refine lv_iload_n hx hb dX8_keyAt_18 rfl (lv_at hl 0 rfl) ?_
            refine lv_iadd hx hb dX8_keyAt_19 ?_
            refine g_vi (y := (nI (kk + ki))) (nI_add _ _) ?_
            refine g_callZU (nA := 1) hC V hl.1 (z_charAt l D T 8 (kk + ki) (by decide) (by omega)) w_1043 w_337 w_338 w_12 w_339 (by decide +kernel) rfl ⟨(Nat.le_of_ble_eq_true rfl), (Nat.le_of_ble_eq_true rfl)⟩ (si := 8) (by first | assumption | decide) rfl rfl [] rfl rfl (Nat.le_of_ble_eq_true rfl) dX8_keyAt_20 ⟨(Nat.le_of_ble_eq_true rfl), (Nat.le_of_ble_eq_true rfl)⟩ rfl (fun r w1 H locs hQ V => ?_)
            obtain ⟨z_4, rfl, rfl, f_5⟩ := hQ
            have V : gW D T A s [(o, .inr (8, [.int w0, .ref g1, .ref g2, .ref g3, .ref g4, .int (nI tp), .int (nI at_), .int (nI be), .int (nI sz), .int w9, .int w10, .int w11, .int w12, .int w13, .int w14, .ref g15, .int w16, .ref g17, .int w18, .int w19, .ref g20, .int w21, .ref g22, .ref g23, .ref g24, .int w25, .int w26, .int w27, .ref g28, .ref g29, .int w30, .ref g31, .ref g32, .ref g33])), (g3, .inl (T 0, 900, .inl ft))] H locs := V _ [] rfl rfl rfl (by decide +kernel) rfl
            show W p l e _ s m args below meth c H locs _ _ _ (F0 m 23 ls [.int z_4])
            refine lv_bipush (v := (nI 32)) hx hb dX8_keyAt_23 (by decide +kernel) ?_
            refine lv_icmp_eq (tgt := 69) hx hb dX8_keyAt_25 (by decide) (fun c_6 => ?_) (fun c_6 => ?_)
            · skip
              have hke := ky_eq hn8 hkk (by omega) (by omega) f_5 c_6
              refine g_ldcS hC V 8 rfl dX8_keyAt_69 ?_
              refine lv_iload_n hx hb dX8_keyAt_71 rfl (lv_at hl 1 rfl) ?_
              refine lv_iload_n hx hb dX8_keyAt_72 rfl (lv_at hl 0 rfl) ?_
              refine lv_iadd hx hb dX8_keyAt_73 ?_
              refine g_vi (y := (nI (kk + ki))) (nI_add _ _) ?_
              refine g_callZU (nA := 1) hC V hl.1 (z_charAt l D T 8 (kk + ki) (by decide) (by omega)) w_1043 w_337 w_338 w_12 w_339 (by decide +kernel) rfl ⟨(Nat.le_of_ble_eq_true rfl), (Nat.le_of_ble_eq_true rfl)⟩ (si := 8) (by first | assumption | decide) rfl rfl [] rfl rfl (Nat.le_of_ble_eq_true rfl) dX8_keyAt_74 ⟨(Nat.le_of_ble_eq_true rfl), (Nat.le_of_ble_eq_true rfl)⟩ rfl (fun r w1 H locs hQ V => ?_)
              obtain ⟨z_7, rfl, rfl, f_8⟩ := hQ
              have V : gW D T A s [(o, .inr (8, [.int w0, .ref g1, .ref g2, .ref g3, .ref g4, .int (nI tp), .int (nI at_), .int (nI be), .int (nI sz), .int w9, .int w10, .int w11, .int w12, .int w13, .int w14, .ref g15, .int w16, .ref g17, .int w18, .int w19, .ref g20, .int w21, .ref g22, .ref g23, .ref g24, .int w25, .int w26, .int w27, .ref g28, .ref g29, .int w30, .ref g31, .ref g32, .ref g33])), (g3, .inl (T 0, 900, .inl ft))] H locs := V _ [] rfl rfl rfl (by decide +kernel) rfl
              show W p l e _ s m args below meth c H locs _ _ _ (F0 m 77 ls [.int z_7])
              refine lv_bipush (v := (nI 32)) hx hb dX8_keyAt_77 (by decide +kernel) ?_
              refine lv_icmp_ne (tgt := 97) hx hb dX8_keyAt_79 (by decide) (fun c_9 => ?_) (fun c_9 => ?_)
              · skip
                exact absurd (f_8.trans (f_5.symm.trans (by assumption))) c_9
              · skip
                refine lv_aload_n hx hb dX8_keyAt_82 rfl (lv_at hl 3 rfl) ?_
                refine g_get hC V (ci := 8) uwX8 0 rfl rfl 6 (by decide) w_918 rfl rfl dX8_keyAt_83 ?_
                refine lv_iload_n hx hb dX8_keyAt_86 rfl (lv_at hl 0 rfl) ?_
                refine lv_iadd hx hb dX8_keyAt_87 ?_
                refine g_vi (y := (nI (at_ + ki))) (nI_add _ _) ?_
                refine lv_aload_n hx hb dX8_keyAt_88 rfl (lv_at hl 3 rfl) ?_
                refine g_get hC V (ci := 8) uwX8 0 rfl rfl 7 (by decide) w_919 rfl rfl dX8_keyAt_89 ?_
                refine lv_icmp_ne (tgt := 97) hx hb dX8_keyAt_92 (by decide) (fun c_10 => ?_) (fun c_10 => ?_)
                · skip
                  have c_10 := b_ne (by omega) (by omega) c_10
                  have hnw : ¬ wMt ft at_ be nq := fun h => absurd h.1 (by omega)
                  have L_11 : ∀ (fu : Nat) (kx : Nat), (kk ≤ kx ∧ kx ≤ kk + sLen.getD nq 0) → kk + sLen.getD nq 0 - kx < fu → ∀ (H : Heap) (locs : List Loc) (ls : Array Slot), gW D T A s [(o, .inr (8, [.int w0, .ref g1, .ref g2, .ref g3, .ref g4, .int (nI tp), .int (nI at_), .int (nI be), .int (nI sz), .int w9, .int w10, .int w11, .int w12, .int w13, .int w14, .ref g15, .int w16, .ref g17, .int w18, .int w19, .ref g20, .int w21, .ref g22, .ref g23, .ref g24, .int w25, .int w26, .int w27, .ref g28, .ref g29, .int w30, .ref g31, .ref g32, .ref g33])), (g3, .inl (T 0, 900, .inl ft))] H locs → lv_has ls 4 [(3, .int (nI ki)), (2, .int (nI kx)), (1, .int (nI nq)), (0, .ref o)] → W p l e (rmD 4 0 0) s m args below meth c H locs 0 0 (MQ below (gQ D A (q_m_keyAt_f T o w0 g1 g2 g3 g4 tp at_ be sz w9 w10 w11 w12 w13 w14 g15 w16 g17 w18 w19 g20 w21 g22 g23 g24 w25 w26 w27 g28 g29 w30 g31 g32 g33 ft)) args s 0 0 A) (F0 m 97 ls []) := by
                    intro fu_97
                    induction fu_97 with
                    | zero => intro kx hkx hmu; exact absurd hmu (Nat.not_lt_zero _)
                    | succ fu_97 ih_97 =>
                      intro kx hkx hmu_97 H locs ls V hl
                      refine g_ldcS hC V 8 rfl dX8_keyAt_97 ?_
                      refine lv_iload_n hx hb dX8_keyAt_99 rfl (lv_at hl 1 rfl) ?_
                      refine g_callZU (nA := 1) hC V hl.1 (z_charAt l D T 8 kx (by decide) (by omega)) w_1043 w_337 w_338 w_12 w_339 (by decide +kernel) rfl ⟨(Nat.le_of_ble_eq_true rfl), (Nat.le_of_ble_eq_true rfl)⟩ (si := 8) (by first | assumption | decide) rfl rfl [] rfl rfl (Nat.le_of_ble_eq_true rfl) dX8_keyAt_100 ⟨(Nat.le_of_ble_eq_true rfl), (Nat.le_of_ble_eq_true rfl)⟩ rfl (fun r w1 H locs hQ V => ?_)
                      obtain ⟨z_12, rfl, rfl, f_13⟩ := hQ
                      have V : gW D T A s [(o, .inr (8, [.int w0, .ref g1, .ref g2, .ref g3, .ref g4, .int (nI tp), .int (nI at_), .int (nI be), .int (nI sz), .int w9, .int w10, .int w11, .int w12, .int w13, .int w14, .ref g15, .int w16, .ref g17, .int w18, .int w19, .ref g20, .int w21, .ref g22, .ref g23, .ref g24, .int w25, .int w26, .int w27, .ref g28, .ref g29, .int w30, .ref g31, .ref g32, .ref g33])), (g3, .inl (T 0, 900, .inl ft))] H locs := V _ [] rfl rfl rfl (by decide +kernel) rfl
                      show W p l e _ s m args below meth c H locs _ _ _ (F0 m 103 ls [.int z_12])
                      refine lv_bipush (v := (nI 32)) hx hb dX8_keyAt_103 (by decide +kernel) ?_
                      refine lv_icmp_eq (tgt := 114) hx hb dX8_keyAt_105 (by decide) (fun c_14 => ?_) (fun c_14 => ?_)
                      · skip
                        have hkx2 := ky_eq hn8 hkk (by omega) (by omega) f_13 c_14
                        refine lv_iinc (v := (nI (kx + 1))) (lv' := [(2, .int (nI (kx + 1))), (3, .int (nI ki)), (1, .int (nI nq)), (0, .ref o)]) hx hb dX8_keyAt_114 hl (k := 1) rfl (nI_1 _) (by decide) rfl (fun ls hl => ?_)
                        refine lv_iinc (v := (nI (nq + 1))) (lv' := [(1, .int (nI (nq + 1))), (2, .int (nI (kx + 1))), (3, .int (nI ki)), (0, .ref o)]) hx hb dX8_keyAt_117 hl (k := 2) rfl (nI_1 _) (by decide) rfl (fun ls hl => ?_)
                        refine lv_goto (tgt := 4) hx hb dX8_keyAt_120 (by decide) ?_
                        exact ih_4 (nq + 1) (kx + 1) (by omega) (by omega) (no_one hno hnw) (by omega) _ _ _ V (lv_sub hl [1, 0, 3] rfl)
                      · skip
                        have hkx3 := ky_lt hn8 hkk (by omega) (by omega) f_13 c_14
                        refine lv_iinc (v := (nI (kx + 1))) (lv' := [(2, .int (nI (kx + 1))), (3, .int (nI ki)), (1, .int (nI nq)), (0, .ref o)]) hx hb dX8_keyAt_108 hl (k := 1) rfl (nI_1 _) (by decide) rfl (fun ls hl => ?_)
                        refine lv_goto (tgt := 97) hx hb dX8_keyAt_111 (by decide) ?_
                        exact ih_97 (kx + 1) (by omega) (by omega) _ _ _ V (lv_sub hl [1, 0, 2, 3] rfl)
                  exact L_11 _ kk (by omega) (Nat.lt_succ_self _) _ _ _ V (lv_sub hl [0, 1, 2, 3] rfl)
                · skip
                  have c_10 := b_eq (by omega) (by omega) c_10
                  refine lv_iload_n hx hb dX8_keyAt_95 rfl (lv_at hl 2 rfl) ?_
                  exact g_iret (Qr := (q_m_keyAt_f T o w0 g1 g2 g3 g4 tp at_ be sz w9 w10 w11 w12 w13 w14 g15 w16 g17 w18 w19 g20 w21 g22 g23 g24 w25 w26 w27 g28 g29 w30 g31 g32 g33 ft)) hC V ⟨(Nat.le_of_ble_eq_true rfl), (Nat.le_of_ble_eq_true rfl)⟩ ⟨nq, rfl, rfl, (keyOf_is hn8 ⟨by omega, fun j hj => hmt j (by omega)⟩).symm⟩ dX8_keyAt_96
            · skip
              have hlt := ky_lt hn8 hkk (by omega) (by omega) f_5 c_6
              refine lv_aload_n hx hb dX8_keyAt_28 rfl (lv_at hl 3 rfl) ?_
              refine g_get hC V (ci := 8) uwX8 0 rfl rfl 6 (by decide) w_918 rfl rfl dX8_keyAt_29 ?_
              refine lv_iload_n hx hb dX8_keyAt_32 rfl (lv_at hl 0 rfl) ?_
              refine lv_iadd hx hb dX8_keyAt_33 ?_
              refine g_vi (y := (nI (at_ + ki))) (nI_add _ _) ?_
              refine lv_aload_n hx hb dX8_keyAt_34 rfl (lv_at hl 3 rfl) ?_
              refine g_get hC V (ci := 8) uwX8 0 rfl rfl 7 (by decide) w_919 rfl rfl dX8_keyAt_35 ?_
              refine lv_icmp_ge (tgt := 69) hx hb dX8_keyAt_38 (by decide) (fun c_15 => ?_) (fun c_15 => ?_)
              · skip
                have c_15 := b_le (by omega) (by omega) c_15
                have hnw : ¬ wMt ft at_ be nq := fun h => absurd h.1 (by omega)
                refine g_ldcS hC V 8 rfl dX8_keyAt_69 ?_
                refine lv_iload_n hx hb dX8_keyAt_71 rfl (lv_at hl 1 rfl) ?_
                refine lv_iload_n hx hb dX8_keyAt_72 rfl (lv_at hl 0 rfl) ?_
                refine lv_iadd hx hb dX8_keyAt_73 ?_
                refine g_vi (y := (nI (kk + ki))) (nI_add _ _) ?_
                refine g_callZU (nA := 1) hC V hl.1 (z_charAt l D T 8 (kk + ki) (by decide) (by omega)) w_1043 w_337 w_338 w_12 w_339 (by decide +kernel) rfl ⟨(Nat.le_of_ble_eq_true rfl), (Nat.le_of_ble_eq_true rfl)⟩ (si := 8) (by first | assumption | decide) rfl rfl [] rfl rfl (Nat.le_of_ble_eq_true rfl) dX8_keyAt_74 ⟨(Nat.le_of_ble_eq_true rfl), (Nat.le_of_ble_eq_true rfl)⟩ rfl (fun r w1 H locs hQ V => ?_)
                obtain ⟨z_16, rfl, rfl, f_17⟩ := hQ
                have V : gW D T A s [(o, .inr (8, [.int w0, .ref g1, .ref g2, .ref g3, .ref g4, .int (nI tp), .int (nI at_), .int (nI be), .int (nI sz), .int w9, .int w10, .int w11, .int w12, .int w13, .int w14, .ref g15, .int w16, .ref g17, .int w18, .int w19, .ref g20, .int w21, .ref g22, .ref g23, .ref g24, .int w25, .int w26, .int w27, .ref g28, .ref g29, .int w30, .ref g31, .ref g32, .ref g33])), (g3, .inl (T 0, 900, .inl ft))] H locs := V _ [] rfl rfl rfl (by decide +kernel) rfl
                show W p l e _ s m args below meth c H locs _ _ _ (F0 m 77 ls [.int z_16])
                refine lv_bipush (v := (nI 32)) hx hb dX8_keyAt_77 (by decide +kernel) ?_
                refine lv_icmp_ne (tgt := 97) hx hb dX8_keyAt_79 (by decide) (fun c_18 => ?_) (fun c_18 => ?_)
                · skip
                  have L_19 : ∀ (fu : Nat) (kx : Nat), (kk ≤ kx ∧ kx ≤ kk + sLen.getD nq 0) → kk + sLen.getD nq 0 - kx < fu → ∀ (H : Heap) (locs : List Loc) (ls : Array Slot), gW D T A s [(o, .inr (8, [.int w0, .ref g1, .ref g2, .ref g3, .ref g4, .int (nI tp), .int (nI at_), .int (nI be), .int (nI sz), .int w9, .int w10, .int w11, .int w12, .int w13, .int w14, .ref g15, .int w16, .ref g17, .int w18, .int w19, .ref g20, .int w21, .ref g22, .ref g23, .ref g24, .int w25, .int w26, .int w27, .ref g28, .ref g29, .int w30, .ref g31, .ref g32, .ref g33])), (g3, .inl (T 0, 900, .inl ft))] H locs → lv_has ls 4 [(3, .int (nI ki)), (2, .int (nI kx)), (1, .int (nI nq)), (0, .ref o)] → W p l e (rmD 4 0 0) s m args below meth c H locs 0 0 (MQ below (gQ D A (q_m_keyAt_f T o w0 g1 g2 g3 g4 tp at_ be sz w9 w10 w11 w12 w13 w14 g15 w16 g17 w18 w19 g20 w21 g22 g23 g24 w25 w26 w27 g28 g29 w30 g31 g32 g33 ft)) args s 0 0 A) (F0 m 97 ls []) := by
                    intro fu_97
                    induction fu_97 with
                    | zero => intro kx hkx hmu; exact absurd hmu (Nat.not_lt_zero _)
                    | succ fu_97 ih_97 =>
                      intro kx hkx hmu_97 H locs ls V hl
                      refine g_ldcS hC V 8 rfl dX8_keyAt_97 ?_
                      refine lv_iload_n hx hb dX8_keyAt_99 rfl (lv_at hl 1 rfl) ?_
                      refine g_callZU (nA := 1) hC V hl.1 (z_charAt l D T 8 kx (by decide) (by omega)) w_1043 w_337 w_338 w_12 w_339 (by decide +kernel) rfl ⟨(Nat.le_of_ble_eq_true rfl), (Nat.le_of_ble_eq_true rfl)⟩ (si := 8) (by first | assumption | decide) rfl rfl [] rfl rfl (Nat.le_of_ble_eq_true rfl) dX8_keyAt_100 ⟨(Nat.le_of_ble_eq_true rfl), (Nat.le_of_ble_eq_true rfl)⟩ rfl (fun r w1 H locs hQ V => ?_)
                      obtain ⟨z_20, rfl, rfl, f_21⟩ := hQ
                      have V : gW D T A s [(o, .inr (8, [.int w0, .ref g1, .ref g2, .ref g3, .ref g4, .int (nI tp), .int (nI at_), .int (nI be), .int (nI sz), .int w9, .int w10, .int w11, .int w12, .int w13, .int w14, .ref g15, .int w16, .ref g17, .int w18, .int w19, .ref g20, .int w21, .ref g22, .ref g23, .ref g24, .int w25, .int w26, .int w27, .ref g28, .ref g29, .int w30, .ref g31, .ref g32, .ref g33])), (g3, .inl (T 0, 900, .inl ft))] H locs := V _ [] rfl rfl rfl (by decide +kernel) rfl
                      show W p l e _ s m args below meth c H locs _ _ _ (F0 m 103 ls [.int z_20])
                      refine lv_bipush (v := (nI 32)) hx hb dX8_keyAt_103 (by decide +kernel) ?_
                      refine lv_icmp_eq (tgt := 114) hx hb dX8_keyAt_105 (by decide) (fun c_22 => ?_) (fun c_22 => ?_)
                      · skip
                        have hkx2 := ky_eq hn8 hkk (by omega) (by omega) f_21 c_22
                        refine lv_iinc (v := (nI (kx + 1))) (lv' := [(2, .int (nI (kx + 1))), (3, .int (nI ki)), (1, .int (nI nq)), (0, .ref o)]) hx hb dX8_keyAt_114 hl (k := 1) rfl (nI_1 _) (by decide) rfl (fun ls hl => ?_)
                        refine lv_iinc (v := (nI (nq + 1))) (lv' := [(1, .int (nI (nq + 1))), (2, .int (nI (kx + 1))), (3, .int (nI ki)), (0, .ref o)]) hx hb dX8_keyAt_117 hl (k := 2) rfl (nI_1 _) (by decide) rfl (fun ls hl => ?_)
                        refine lv_goto (tgt := 4) hx hb dX8_keyAt_120 (by decide) ?_
                        exact ih_4 (nq + 1) (kx + 1) (by omega) (by omega) (no_one hno hnw) (by omega) _ _ _ V (lv_sub hl [1, 0, 3] rfl)
                      · skip
                        have hkx3 := ky_lt hn8 hkk (by omega) (by omega) f_21 c_22
                        refine lv_iinc (v := (nI (kx + 1))) (lv' := [(2, .int (nI (kx + 1))), (3, .int (nI ki)), (1, .int (nI nq)), (0, .ref o)]) hx hb dX8_keyAt_108 hl (k := 1) rfl (nI_1 _) (by decide) rfl (fun ls hl => ?_)
                        refine lv_goto (tgt := 97) hx hb dX8_keyAt_111 (by decide) ?_
                        exact ih_97 (kx + 1) (by omega) (by omega) _ _ _ V (lv_sub hl [1, 0, 2, 3] rfl)
                  exact L_19 _ kk (by omega) (Nat.lt_succ_self _) _ _ _ V (lv_sub hl [0, 1, 2, 3] rfl)
                · skip
                  have hke := ky_eq hn8 hkk (by omega) (by omega) f_17 c_18
                  exact absurd hke (by omega)
              · skip
                have c_15 := b_nle (by omega) (by omega) c_15
                refine lv_aload_n hx hb dX8_keyAt_41 rfl (lv_at hl 3 rfl) ?_
                refine g_get hC V (ci := 8) uwX8 0 rfl rfl 3 (by decide) w_915 rfl rfl dX8_keyAt_42 ?_
                refine lv_aload_n hx hb dX8_keyAt_45 rfl (lv_at hl 3 rfl) ?_
                refine g_get hC V (ci := 8) uwX8 0 rfl rfl 6 (by decide) w_918 rfl rfl dX8_keyAt_46 ?_
                refine lv_iload_n hx hb dX8_keyAt_49 rfl (lv_at hl 0 rfl) ?_
                refine lv_iadd hx hb dX8_keyAt_50 ?_
                refine g_vi (y := (nI (at_ + ki))) (nI_add _ _) ?_
                refine g_iald hC V 1 rfl (vp_in_nI (by omega) (by omega)) (v := (ft (at_ + ki))) (congrArg _ (nI_clamp (by omega))) dX8_keyAt_51 ?_
                refine g_ldcS hC V 8 rfl dX8_keyAt_52 ?_
                refine lv_iload_n hx hb dX8_keyAt_54 rfl (lv_at hl 1 rfl) ?_
                refine lv_iload_n hx hb dX8_keyAt_55 rfl (lv_at hl 0 rfl) ?_
                refine lv_iadd hx hb dX8_keyAt_56 ?_
                refine g_vi (y := (nI (kk + ki))) (nI_add _ _) ?_
                refine g_callZU (nA := 1) hC V hl.1 (z_charAt l D T 8 (kk + ki) (by decide) (by omega)) w_1043 w_337 w_338 w_12 w_339 (by decide +kernel) rfl ⟨(Nat.le_of_ble_eq_true rfl), (Nat.le_of_ble_eq_true rfl)⟩ (si := 8) (by first | assumption | decide) rfl rfl [] rfl rfl (Nat.le_of_ble_eq_true rfl) dX8_keyAt_57 ⟨(Nat.le_of_ble_eq_true rfl), (Nat.le_of_ble_eq_true rfl)⟩ rfl (fun r w1 H locs hQ V => ?_)
                obtain ⟨z_23, rfl, rfl, f_24⟩ := hQ
                have V : gW D T A s [(o, .inr (8, [.int w0, .ref g1, .ref g2, .ref g3, .ref g4, .int (nI tp), .int (nI at_), .int (nI be), .int (nI sz), .int w9, .int w10, .int w11, .int w12, .int w13, .int w14, .ref g15, .int w16, .ref g17, .int w18, .int w19, .ref g20, .int w21, .ref g22, .ref g23, .ref g24, .int w25, .int w26, .int w27, .ref g28, .ref g29, .int w30, .ref g31, .ref g32, .ref g33])), (g3, .inl (T 0, 900, .inl ft))] H locs := V _ [] rfl rfl rfl (by decide +kernel) rfl
                show W p l e _ s m args below meth c H locs _ _ _ (F0 m 60 ls [.int z_23, .int (ft (at_ + ki))])
                refine lv_icmp_ne (tgt := 69) hx hb dX8_keyAt_60 (by decide) (fun c_25 => ?_) (fun c_25 => ?_)
                · skip
                  have hnw : ¬ wMt ft at_ be nq := fun h => c_25 ((h.2 ki (by omega)).trans ((ky_at hn8 hkk (by omega)).symm.trans f_24.symm))
                  refine g_ldcS hC V 8 rfl dX8_keyAt_69 ?_
                  refine lv_iload_n hx hb dX8_keyAt_71 rfl (lv_at hl 1 rfl) ?_
                  refine lv_iload_n hx hb dX8_keyAt_72 rfl (lv_at hl 0 rfl) ?_
                  refine lv_iadd hx hb dX8_keyAt_73 ?_
                  refine g_vi (y := (nI (kk + ki))) (nI_add _ _) ?_
                  refine g_callZU (nA := 1) hC V hl.1 (z_charAt l D T 8 (kk + ki) (by decide) (by omega)) w_1043 w_337 w_338 w_12 w_339 (by decide +kernel) rfl ⟨(Nat.le_of_ble_eq_true rfl), (Nat.le_of_ble_eq_true rfl)⟩ (si := 8) (by first | assumption | decide) rfl rfl [] rfl rfl (Nat.le_of_ble_eq_true rfl) dX8_keyAt_74 ⟨(Nat.le_of_ble_eq_true rfl), (Nat.le_of_ble_eq_true rfl)⟩ rfl (fun r w1 H locs hQ V => ?_)
                  obtain ⟨z_26, rfl, rfl, f_27⟩ := hQ
                  have V : gW D T A s [(o, .inr (8, [.int w0, .ref g1, .ref g2, .ref g3, .ref g4, .int (nI tp), .int (nI at_), .int (nI be), .int (nI sz), .int w9, .int w10, .int w11, .int w12, .int w13, .int w14, .ref g15, .int w16, .ref g17, .int w18, .int w19, .ref g20, .int w21, .ref g22, .ref g23, .ref g24, .int w25, .int w26, .int w27, .ref g28, .ref g29, .int w30, .ref g31, .ref g32, .ref g33])), (g3, .inl (T 0, 900, .inl ft))] H locs := V _ [] rfl rfl rfl (by decide +kernel) rfl
                  show W p l e _ s m args below meth c H locs _ _ _ (F0 m 77 ls [.int z_26])
                  refine lv_bipush (v := (nI 32)) hx hb dX8_keyAt_77 (by decide +kernel) ?_
                  refine lv_icmp_ne (tgt := 97) hx hb dX8_keyAt_79 (by decide) (fun c_28 => ?_) (fun c_28 => ?_)
                  · skip
                    have L_29 : ∀ (fu : Nat) (kx : Nat), (kk ≤ kx ∧ kx ≤ kk + sLen.getD nq 0) → kk + sLen.getD nq 0 - kx < fu → ∀ (H : Heap) (locs : List Loc) (ls : Array Slot), gW D T A s [(o, .inr (8, [.int w0, .ref g1, .ref g2, .ref g3, .ref g4, .int (nI tp), .int (nI at_), .int (nI be), .int (nI sz), .int w9, .int w10, .int w11, .int w12, .int w13, .int w14, .ref g15, .int w16, .ref g17, .int w18, .int w19, .ref g20, .int w21, .ref g22, .ref g23, .ref g24, .int w25, .int w26, .int w27, .ref g28, .ref g29, .int w30, .ref g31, .ref g32, .ref g33])), (g3, .inl (T 0, 900, .inl ft))] H locs → lv_has ls 4 [(3, .int (nI ki)), (2, .int (nI kx)), (1, .int (nI nq)), (0, .ref o)] → W p l e (rmD 4 0 0) s m args below meth c H locs 0 0 (MQ below (gQ D A (q_m_keyAt_f T o w0 g1 g2 g3 g4 tp at_ be sz w9 w10 w11 w12 w13 w14 g15 w16 g17 w18 w19 g20 w21 g22 g23 g24 w25 w26 w27 g28 g29 w30 g31 g32 g33 ft)) args s 0 0 A) (F0 m 97 ls []) := by
                      intro fu_97
                      induction fu_97 with
                      | zero => intro kx hkx hmu; exact absurd hmu (Nat.not_lt_zero _)
                      | succ fu_97 ih_97 =>
                        intro kx hkx hmu_97 H locs ls V hl
                        refine g_ldcS hC V 8 rfl dX8_keyAt_97 ?_
                        refine lv_iload_n hx hb dX8_keyAt_99 rfl (lv_at hl 1 rfl) ?_
                        refine g_callZU (nA := 1) hC V hl.1 (z_charAt l D T 8 kx (by decide) (by omega)) w_1043 w_337 w_338 w_12 w_339 (by decide +kernel) rfl ⟨(Nat.le_of_ble_eq_true rfl), (Nat.le_of_ble_eq_true rfl)⟩ (si := 8) (by first | assumption | decide) rfl rfl [] rfl rfl (Nat.le_of_ble_eq_true rfl) dX8_keyAt_100 ⟨(Nat.le_of_ble_eq_true rfl), (Nat.le_of_ble_eq_true rfl)⟩ rfl (fun r w1 H locs hQ V => ?_)
                        obtain ⟨z_30, rfl, rfl, f_31⟩ := hQ
                        have V : gW D T A s [(o, .inr (8, [.int w0, .ref g1, .ref g2, .ref g3, .ref g4, .int (nI tp), .int (nI at_), .int (nI be), .int (nI sz), .int w9, .int w10, .int w11, .int w12, .int w13, .int w14, .ref g15, .int w16, .ref g17, .int w18, .int w19, .ref g20, .int w21, .ref g22, .ref g23, .ref g24, .int w25, .int w26, .int w27, .ref g28, .ref g29, .int w30, .ref g31, .ref g32, .ref g33])), (g3, .inl (T 0, 900, .inl ft))] H locs := V _ [] rfl rfl rfl (by decide +kernel) rfl
                        show W p l e _ s m args below meth c H locs _ _ _ (F0 m 103 ls [.int z_30])
                        refine lv_bipush (v := (nI 32)) hx hb dX8_keyAt_103 (by decide +kernel) ?_
                        refine lv_icmp_eq (tgt := 114) hx hb dX8_keyAt_105 (by decide) (fun c_32 => ?_) (fun c_32 => ?_)
                        · skip
                          have hkx2 := ky_eq hn8 hkk (by omega) (by omega) f_31 c_32
                          refine lv_iinc (v := (nI (kx + 1))) (lv' := [(2, .int (nI (kx + 1))), (3, .int (nI ki)), (1, .int (nI nq)), (0, .ref o)]) hx hb dX8_keyAt_114 hl (k := 1) rfl (nI_1 _) (by decide) rfl (fun ls hl => ?_)
                          refine lv_iinc (v := (nI (nq + 1))) (lv' := [(1, .int (nI (nq + 1))), (2, .int (nI (kx + 1))), (3, .int (nI ki)), (0, .ref o)]) hx hb dX8_keyAt_117 hl (k := 2) rfl (nI_1 _) (by decide) rfl (fun ls hl => ?_)
                          refine lv_goto (tgt := 4) hx hb dX8_keyAt_120 (by decide) ?_
                          exact ih_4 (nq + 1) (kx + 1) (by omega) (by omega) (no_one hno hnw) (by omega) _ _ _ V (lv_sub hl [1, 0, 3] rfl)
                        · skip
                          have hkx3 := ky_lt hn8 hkk (by omega) (by omega) f_31 c_32
                          refine lv_iinc (v := (nI (kx + 1))) (lv' := [(2, .int (nI (kx + 1))), (3, .int (nI ki)), (1, .int (nI nq)), (0, .ref o)]) hx hb dX8_keyAt_108 hl (k := 1) rfl (nI_1 _) (by decide) rfl (fun ls hl => ?_)
                          refine lv_goto (tgt := 97) hx hb dX8_keyAt_111 (by decide) ?_
                          exact ih_97 (kx + 1) (by omega) (by omega) _ _ _ V (lv_sub hl [1, 0, 2, 3] rfl)
                    exact L_29 _ kk (by omega) (Nat.lt_succ_self _) _ _ _ V (lv_sub hl [0, 1, 2, 3] rfl)
                  · skip
                    have hke := ky_eq hn8 hkk (by omega) (by omega) f_27 c_28
                    exact absurd hke (by omega)
                · skip
                  have hmt2 := mt_one hmt (c_25.trans (f_24.trans (ky_at hn8 hkk (by omega))))
                  refine lv_iinc (v := (nI (ki + 1))) (lv' := [(3, .int (nI (ki + 1))), (2, .int (nI kk)), (1, .int (nI nq)), (0, .ref o)]) hx hb dX8_keyAt_63 hl (k := 0) rfl (nI_1 _) (by decide) rfl (fun ls hl => ?_)
                  refine lv_goto (tgt := 15) hx hb dX8_keyAt_66 (by decide) ?_
                  exact ih_15 (ki + 1) (by omega) (by omega) hmt2 (by omega) _ _ _ V (lv_sub hl [0, 1, 2, 3] rfl)
        exact L_3 _ 0 (by omega) (by omega) (fun i h => absurd h (Nat.not_lt_zero _)) (Nat.lt_succ_self _) _ _ _ V (lv_sub hl [0, 1, 2, 3] rfl)
  exact L_1 _ 0 1 (by omega) rfl (fun i h => absurd h (Nat.not_lt_zero _)) (Nat.lt_succ_self _) _ _ _ V (lv_sub hl [0, 1, 2] rfl)

def q_m_next_f (T : Nat → ClassId) (o : Nat) (w0 : Int32) (g1 : Nat) (g2 : Nat) (g3 : Nat) (g4 : Nat) (tp : Nat) (w6 : Int32) (be : Nat) (sz : Nat) (w9 : Int32) (nu : Int32) (wr : Nat) (wa : Int32) (w13 : Int32) (w14 : Int32) (g15 : Nat) (w16 : Int32) (g17 : Nat) (w18 : Int32) (w19 : Int32) (g20 : Nat) (w21 : Int32) (g22 : Nat) (g23 : Nat) (g24 : Nat) (w25 : Int32) (w26 : Int32) (w27 : Int32) (g28 : Nat) (g29 : Nat) (w30 : Int32) (g31 : Nat) (g32 : Nat) (g33 : Nat) (ft : Nat → Int32) : Option Value → va_W → Prop := fun rr ww => (∃ (p2 : PS), rr = none ∧ ww = [(o, .inr (8, [.int w0, .ref g1, .ref g2, .ref g3, .ref g4, .int (nI tp), .int (nI p2.1), .int (nI p2.2.1), .int (nI sz), .int (nI p2.2.2.1), .int p2.2.2.2.1, .int (nI p2.2.2.2.2.1), .int p2.2.2.2.2.2, .int w13, .int w14, .ref g15, .int w16, .ref g17, .int w18, .int w19, .ref g20, .int w21, .ref g22, .ref g23, .ref g24, .int w25, .int w26, .int w27, .ref g28, .ref g29, .int w30, .ref g31, .ref g32, .ref g33])), (g3, .inl (T 0, 900, .inl ft))] ∧ p2 = nxS ft sz (0, be, 0, nu, wr, wa))
set_option maxHeartbeats 4000000 in
set_option maxRecDepth 100000 in
theorem m_next_f (l : Launch) (D : va_G) (T : Nat → ClassId) (o : Nat) (w0 : Int32) (g1 : Nat) (g2 : Nat) (g3 : Nat) (g4 : Nat) (tp : Nat) (w6 : Int32) (be : Nat) (sz : Nat) (w9 : Int32) (nu : Int32) (wr : Nat) (wa : Int32) (w13 : Int32) (w14 : Int32) (g15 : Nat) (w16 : Int32) (g17 : Nat) (w18 : Int32) (w19 : Int32) (g20 : Nat) (w21 : Int32) (g22 : Nat) (g23 : Nat) (g24 : Nat) (w25 : Int32) (w26 : Int32) (w27 : Int32) (g28 : Nat) (g29 : Nat) (w30 : Int32) (g31 : Nat) (g32 : Nat) (g33 : Nat) (ft : Nat → Int32) (h_sz : sz ≤ 900) (h_b : be ≤ sz) (h_wr : wr ≤ 4) : Ct l yX8_next cX8_next 1 none 5 0 0 D T [.ref o] [(o, .inr (8, [.int w0, .ref g1, .ref g2, .ref g3, .ref g4, .int (nI tp), .int w6, .int (nI be), .int (nI sz), .int w9, .int nu, .int (nI wr), .int wa, .int w13, .int w14, .ref g15, .int w16, .ref g17, .int w18, .int w19, .ref g20, .int w21, .ref g22, .ref g23, .ref g24, .int w25, .int w26, .int w27, .ref g28, .ref g29, .int w30, .ref g31, .ref g32, .ref g33])), (g3, .inl (T 0, 900, .inl ft))] (q_m_next_f T o w0 g1 g2 g3 g4 tp w6 be sz w9 nu wr wa w13 w14 g15 w16 g17 w18 w19 g20 w21 g22 g23 g24 w25 w26 w27 g28 g29 w30 g31 g32 g33 ft) := by
  refine Ct.of (cc := cX8_next) (maxL := 1) (ret := none) (by decide) (Nat.le_of_ble_eq_true rfl) ?_
  intro p e s m args below meth c A ls hC hnm V hl
  obtain ⟨hx, hb, hr, hml, hown, hts, hlocks⟩ := id hC
  generalize hH : s.heap = H at V ⊢
  clear hH
  have hl : lv_has ls 1 [(0, .ref o)] := hl
  generalize hlo : ([] : List Loc) = locs at V ⊢
  clear hlo
  refine lv_aload_n hx hb dX8_next_0 rfl (lv_at hl 0 rfl) ?_
  refine lv_aload_n hx hb dX8_next_1 rfl (lv_at hl 0 rfl) ?_
  refine g_get hC V (ci := 8) uwX8 0 rfl rfl 7 (by decide) w_919 rfl rfl dX8_next_2 ?_
  refine g_put hC V (ci := 8) uwX8 tyX8 tyX8_ok nmX8 0 rfl rfl 6 (by decide) w_918 rfl rfl rfl rfl (Nat.le_of_ble_eq_true rfl) (ws' := [(o, .inr (8, [.int w0, .ref g1, .ref g2, .ref g3, .ref g4, .int (nI tp), .int (nI be), .int (nI be), .int (nI sz), .int w9, .int nu, .int (nI wr), .int wa, .int w13, .int w14, .ref g15, .int w16, .ref g17, .int w18, .int w19, .ref g20, .int w21, .ref g22, .ref g23, .ref g24, .int w25, .int w26, .int w27, .ref g28, .ref g29, .int w30, .ref g31, .ref g32, .ref g33])), (g3, .inl (T 0, 900, .inl ft))]) rfl dX8_next_5 (fun H locs V => ?_)
  have J_47 : ∀ (aq : Nat), (be ≤ aq ∧ aq ≤ sz) → aq = rn blkB ft sz be → ∀ (H : Heap) (locs : List Loc) (ls : Array Slot), gW D T A s [(o, .inr (8, [.int w0, .ref g1, .ref g2, .ref g3, .ref g4, .int (nI tp), .int (nI aq), .int (nI be), .int (nI sz), .int w9, .int nu, .int (nI wr), .int wa, .int w13, .int w14, .ref g15, .int w16, .ref g17, .int w18, .int w19, .ref g20, .int w21, .ref g22, .ref g23, .ref g24, .int w25, .int w26, .int w27, .ref g28, .ref g29, .int w30, .ref g31, .ref g32, .ref g33])), (g3, .inl (T 0, 900, .inl ft))] H locs → lv_has ls 1 [(0, .ref o)] → W p l e (rmD 5 0 0) s m args below meth c H locs 0 0 (MQ below (gQ D A (q_m_next_f T o w0 g1 g2 g3 g4 tp w6 be sz w9 nu wr wa w13 w14 g15 w16 g17 w18 w19 g20 w21 g22 g23 g24 w25 w26 w27 g28 g29 w30 g31 g32 g33 ft)) args s 0 0 A) (F0 m 47 ls []) := by
    intro aq haq haq2 H locs ls V hl
    refine lv_aload_n hx hb dX8_next_47 rfl (lv_at hl 0 rfl) ?_
    refine lv_aload_n hx hb dX8_next_48 rfl (lv_at hl 0 rfl) ?_
    refine g_get hC V (ci := 8) uwX8 0 rfl rfl 6 (by decide) w_918 rfl rfl dX8_next_49 ?_
    refine g_put hC V (ci := 8) uwX8 tyX8 tyX8_ok nmX8 0 rfl rfl 7 (by decide) w_919 rfl rfl rfl rfl (Nat.le_of_ble_eq_true rfl) (ws' := [(o, .inr (8, [.int w0, .ref g1, .ref g2, .ref g3, .ref g4, .int (nI tp), .int (nI aq), .int (nI aq), .int (nI sz), .int w9, .int nu, .int (nI wr), .int wa, .int w13, .int w14, .ref g15, .int w16, .ref g17, .int w18, .int w19, .ref g20, .int w21, .ref g22, .ref g23, .ref g24, .int w25, .int w26, .int w27, .ref g28, .ref g29, .int w30, .ref g31, .ref g32, .ref g33])), (g3, .inl (T 0, 900, .inl ft))]) rfl dX8_next_52 (fun H locs V => ?_)
    refine lv_aload_n hx hb dX8_next_55 rfl (lv_at hl 0 rfl) ?_
    refine g_get hC V (ci := 8) uwX8 0 rfl rfl 6 (by decide) w_918 rfl rfl dX8_next_56 ?_
    refine lv_aload_n hx hb dX8_next_59 rfl (lv_at hl 0 rfl) ?_
    refine g_get hC V (ci := 8) uwX8 0 rfl rfl 8 (by decide) w_920 rfl rfl dX8_next_60 ?_
    refine lv_icmp_lt (tgt := 75) hx hb dX8_next_63 (by decide) (fun c_1 => ?_) (fun c_1 => ?_)
    · skip
      have c_1 := b_lt (by omega) (by omega) c_1
      refine lv_aload_n hx hb dX8_next_75 rfl (lv_at hl 0 rfl) ?_
      refine lv_aload_n hx hb dX8_next_76 rfl (lv_at hl 0 rfl) ?_
      refine g_get hC V (ci := 8) uwX8 0 rfl rfl 6 (by decide) w_918 rfl rfl dX8_next_77 ?_
      refine g_callV (wr := []) (nA := 1) hC V hl.1 (m_see l D T o aq w0 g1 g2 g3 g4 tp (nI aq) (nI aq) sz w9 nu (nI wr) wa w13 w14 g15 w16 g17 w18 w19 g20 w21 g22 g23 g24 w25 w26 w27 g28 g29 w30 g31 g32 g33 ft (by first | assumption | omega) (by first | assumption | omega)) w_1030 w_1032 w_s37 w_9 w_1033 (by decide +kernel) rfl ⟨(Nat.le_of_ble_eq_true rfl), (Nat.le_of_ble_eq_true rfl)⟩ 0 (ci := 8) rfl rfl [0, 1] [] rfl rfl rfl rfl (by decide) (Nat.le_of_ble_eq_true rfl) dX8_next_80 ⟨(Nat.le_of_ble_eq_true rfl), (Nat.le_of_ble_eq_true rfl)⟩ rfl (fun r w1 H locs hQ V => ?_)
      rcases hQ with ⟨rfl, rfl, f_2⟩ | ⟨z_3, rfl, rfl, f_4, f_5⟩
      · have V : gW D T A s [(o, .inr (8, [.int w0, .ref g1, .ref g2, .ref g3, .ref g4, .int (nI tp), .int (nI aq), .int (nI aq), .int (nI sz), .int w9, .int nu, .int (nI wr), .int wa, .int w13, .int w14, .ref g15, .int w16, .ref g17, .int w18, .int w19, .ref g20, .int w21, .ref g22, .ref g23, .ref g24, .int w25, .int w26, .int w27, .ref g28, .ref g29, .int w30, .ref g31, .ref g32, .ref g33])), (g3, .inl (T 0, 900, .inl ft))] H locs := V
        show W p l e _ s m args below meth c H locs _ _ _ (F0 m 83 ls [.int (-1)])
        exact (by omega : False).elim
      · have V : gW D T A s [(o, .inr (8, [.int w0, .ref g1, .ref g2, .ref g3, .ref g4, .int (nI tp), .int (nI aq), .int (nI aq), .int (nI sz), .int w9, .int nu, .int (nI wr), .int wa, .int w13, .int w14, .ref g15, .int w16, .ref g17, .int w18, .int w19, .ref g20, .int w21, .ref g22, .ref g23, .ref g24, .int w25, .int w26, .int w27, .ref g28, .ref g29, .int w30, .ref g31, .ref g32, .ref g33])), (g3, .inl (T 0, 900, .inl ft))] H locs := V
        show W p l e _ s m args below meth c H locs _ _ _ (F0 m 83 ls [.int z_3])
        refine g_callSU (nA := 1) hC V hl.1 (f_isSmall l D T z_3) w_1034 w_1035 w_9 w_1036 (by decide +kernel) rfl ⟨(Nat.le_of_ble_eq_true rfl), (Nat.le_of_ble_eq_true rfl)⟩ [] rfl rfl (Nat.le_of_ble_eq_true rfl) dX8_next_83 ⟨(Nat.le_of_ble_eq_true rfl), (Nat.le_of_ble_eq_true rfl)⟩ rfl (fun r w1 H locs hQ V => ?_)
        rcases hQ with ⟨rfl, rfl, f_6⟩ | ⟨rfl, rfl, f_7⟩
        · have V : gW D T A s [(o, .inr (8, [.int w0, .ref g1, .ref g2, .ref g3, .ref g4, .int (nI tp), .int (nI aq), .int (nI aq), .int (nI sz), .int w9, .int nu, .int (nI wr), .int wa, .int w13, .int w14, .ref g15, .int w16, .ref g17, .int w18, .int w19, .ref g20, .int w21, .ref g22, .ref g23, .ref g24, .int w25, .int w26, .int w27, .ref g28, .ref g29, .int w30, .ref g31, .ref g32, .ref g33])), (g3, .inl (T 0, 900, .inl ft))] H locs := V _ [] rfl rfl rfl (by decide +kernel) rfl
          show W p l e _ s m args below meth c H locs _ _ _ (F0 m 86 ls [.int (nI 1)])
          have hsm : smB (ft aq) = true := f_5 ▸ f_6
          refine lv_if_eq (tgt := 127) hx hb dX8_next_86 (by decide) (fun c => absurd (show (nI 1) = 0 from c) (by decide +kernel)) (fun _ => ?_)
          have L_8 : ∀ (fu : Nat) (bq : Nat), (aq ≤ bq ∧ bq ≤ sz) → rn smB ft sz bq = rn smB ft sz aq → sz - bq < fu → ∀ (H : Heap) (locs : List Loc) (ls : Array Slot), gW D T A s [(o, .inr (8, [.int w0, .ref g1, .ref g2, .ref g3, .ref g4, .int (nI tp), .int (nI aq), .int (nI bq), .int (nI sz), .int w9, .int nu, .int (nI wr), .int wa, .int w13, .int w14, .ref g15, .int w16, .ref g17, .int w18, .int w19, .ref g20, .int w21, .ref g22, .ref g23, .ref g24, .int w25, .int w26, .int w27, .ref g28, .ref g29, .int w30, .ref g31, .ref g32, .ref g33])), (g3, .inl (T 0, 900, .inl ft))] H locs → lv_has ls 1 [(0, .ref o)] → W p l e (rmD 5 0 0) s m args below meth c H locs 0 0 (MQ below (gQ D A (q_m_next_f T o w0 g1 g2 g3 g4 tp w6 be sz w9 nu wr wa w13 w14 g15 w16 g17 w18 w19 g20 w21 g22 g23 g24 w25 w26 w27 g28 g29 w30 g31 g32 g33 ft)) args s 0 0 A) (F0 m 89 ls []) := by
            intro fu_89
            induction fu_89 with
            | zero => intro bq hbq hrb hmu; exact absurd hmu (Nat.not_lt_zero _)
            | succ fu_89 ih_89 =>
              intro bq hbq hrb hmu_89 H locs ls V hl
              refine lv_aload_n hx hb dX8_next_89 rfl (lv_at hl 0 rfl) ?_
              refine lv_aload_n hx hb dX8_next_90 rfl (lv_at hl 0 rfl) ?_
              refine g_get hC V (ci := 8) uwX8 0 rfl rfl 7 (by decide) w_919 rfl rfl dX8_next_91 ?_
              refine g_callV (wr := []) (nA := 1) hC V hl.1 (m_see l D T o bq w0 g1 g2 g3 g4 tp (nI aq) (nI bq) sz w9 nu (nI wr) wa w13 w14 g15 w16 g17 w18 w19 g20 w21 g22 g23 g24 w25 w26 w27 g28 g29 w30 g31 g32 g33 ft (by first | assumption | omega) (by first | assumption | omega)) w_1030 w_1032 w_s37 w_9 w_1033 (by decide +kernel) rfl ⟨(Nat.le_of_ble_eq_true rfl), (Nat.le_of_ble_eq_true rfl)⟩ 0 (ci := 8) rfl rfl [0, 1] [] rfl rfl rfl rfl (by decide) (Nat.le_of_ble_eq_true rfl) dX8_next_94 ⟨(Nat.le_of_ble_eq_true rfl), (Nat.le_of_ble_eq_true rfl)⟩ rfl (fun r w1 H locs hQ V => ?_)
              rcases hQ with ⟨rfl, rfl, f_9⟩ | ⟨z_10, rfl, rfl, f_11, f_12⟩
              · have V : gW D T A s [(o, .inr (8, [.int w0, .ref g1, .ref g2, .ref g3, .ref g4, .int (nI tp), .int (nI aq), .int (nI bq), .int (nI sz), .int w9, .int nu, .int (nI wr), .int wa, .int w13, .int w14, .ref g15, .int w16, .ref g17, .int w18, .int w19, .ref g20, .int w21, .ref g22, .ref g23, .ref g24, .int w25, .int w26, .int w27, .ref g28, .ref g29, .int w30, .ref g31, .ref g32, .ref g33])), (g3, .inl (T 0, 900, .inl ft))] H locs := V
                show W p l e _ s m args below meth c H locs _ _ _ (F0 m 97 ls [.int (-1)])
                refine g_callSU (nA := 1) hC V hl.1 (f_isSmall l D T (-1)) w_1034 w_1035 w_9 w_1036 (by decide +kernel) rfl ⟨(Nat.le_of_ble_eq_true rfl), (Nat.le_of_ble_eq_true rfl)⟩ [] rfl rfl (Nat.le_of_ble_eq_true rfl) dX8_next_97 ⟨(Nat.le_of_ble_eq_true rfl), (Nat.le_of_ble_eq_true rfl)⟩ rfl (fun r w1 H locs hQ V => ?_)
                rcases hQ with ⟨rfl, rfl, f_13⟩ | ⟨rfl, rfl, f_14⟩
                · have V : gW D T A s [(o, .inr (8, [.int w0, .ref g1, .ref g2, .ref g3, .ref g4, .int (nI tp), .int (nI aq), .int (nI bq), .int (nI sz), .int w9, .int nu, .int (nI wr), .int wa, .int w13, .int w14, .ref g15, .int w16, .ref g17, .int w18, .int w19, .ref g20, .int w21, .ref g22, .ref g23, .ref g24, .int w25, .int w26, .int w27, .ref g28, .ref g29, .int w30, .ref g31, .ref g32, .ref g33])), (g3, .inl (T 0, 900, .inl ft))] H locs := V _ [] rfl rfl rfl (by decide +kernel) rfl
                  show W p l e _ s m args below meth c H locs _ _ _ (F0 m 100 ls [.int (nI 1)])
                  exact absurd f_13 sm_m1
                · have V : gW D T A s [(o, .inr (8, [.int w0, .ref g1, .ref g2, .ref g3, .ref g4, .int (nI tp), .int (nI aq), .int (nI bq), .int (nI sz), .int w9, .int nu, .int (nI wr), .int wa, .int w13, .int w14, .ref g15, .int w16, .ref g17, .int w18, .int w19, .ref g20, .int w21, .ref g22, .ref g23, .ref g24, .int w25, .int w26, .int w27, .ref g28, .ref g29, .int w30, .ref g31, .ref g32, .ref g33])), (g3, .inl (T 0, 900, .inl ft))] H locs := V _ [] rfl rfl rfl (by decide +kernel) rfl
                  show W p l e _ s m args below meth c H locs _ _ _ (F0 m 100 ls [.int (nI 0)])
                  refine lv_if_eq (tgt := 116) hx hb dX8_next_100 (by decide) (fun _ => ?_) (fun c => absurd (show (nI 0) = 0 by decide +kernel) c)
                  refine lv_aload_n hx hb dX8_next_116 rfl (lv_at hl 0 rfl) ?_
                  refine lv_aload_n hx hb dX8_next_117 rfl (lv_at hl 0 rfl) ?_
                  refine g_callV (wr := []) (nA := 0) hC V hl.1 (m_keyAt_f l D T o w0 g1 g2 g3 g4 tp aq bq sz w9 nu (nI wr) wa w13 w14 g15 w16 g17 w18 w19 g20 w21 g22 g23 g24 w25 w26 w27 g28 g29 w30 g31 g32 g33 ft (by first | assumption | omega) (by first | assumption | omega)) w_1037 w_1039 w_s38 w_9 w_1040 (by decide +kernel) rfl ⟨(Nat.le_of_ble_eq_true rfl), (Nat.le_of_ble_eq_true rfl)⟩ 0 (ci := 8) rfl rfl [0, 1] [] rfl rfl rfl rfl (by decide) (Nat.le_of_ble_eq_true rfl) dX8_next_118 ⟨(Nat.le_of_ble_eq_true rfl), (Nat.le_of_ble_eq_true rfl)⟩ rfl (fun r w1 H locs hQ V => ?_)
                  obtain ⟨z_15, rfl, rfl, f_16⟩ := hQ
                  have V : gW D T A s [(o, .inr (8, [.int w0, .ref g1, .ref g2, .ref g3, .ref g4, .int (nI tp), .int (nI aq), .int (nI bq), .int (nI sz), .int w9, .int nu, .int (nI wr), .int wa, .int w13, .int w14, .ref g15, .int w16, .ref g17, .int w18, .int w19, .ref g20, .int w21, .ref g22, .ref g23, .ref g24, .int w25, .int w26, .int w27, .ref g28, .ref g29, .int w30, .ref g31, .ref g32, .ref g33])), (g3, .inl (T 0, 900, .inl ft))] H locs := V
                  show W p l e _ s m args below meth c H locs _ _ _ (F0 m 121 ls [.int (nI z_15), .ref o])
                  refine g_put hC V (ci := 8) uwX8 tyX8 tyX8_ok nmX8 0 rfl rfl 9 (by decide) w_921 rfl rfl rfl rfl (Nat.le_of_ble_eq_true rfl) (ws' := [(o, .inr (8, [.int w0, .ref g1, .ref g2, .ref g3, .ref g4, .int (nI tp), .int (nI aq), .int (nI bq), .int (nI sz), .int (nI z_15), .int nu, .int (nI wr), .int wa, .int w13, .int w14, .ref g15, .int w16, .ref g17, .int w18, .int w19, .ref g20, .int w21, .ref g22, .ref g23, .ref g24, .int w25, .int w26, .int w27, .ref g28, .ref g29, .int w30, .ref g31, .ref g32, .ref g33])), (g3, .inl (T 0, 900, .inl ft))]) rfl dX8_next_121 (fun H locs V => ?_)
                  refine lv_goto (tgt := 270) hx hb dX8_next_124 (by decide) ?_
                  exact g_vret (Qr := (q_m_next_f T o w0 g1 g2 g3 g4 tp w6 be sz w9 nu wr wa w13 w14 g15 w16 g17 w18 w19 g20 w21 g22 g23 g24 w25 w26 w27 g28 g29 w30 g31 g32 g33 ft)) hC V ⟨(Nat.le_of_ble_eq_true rfl), (Nat.le_of_ble_eq_true rfl)⟩ ⟨(aq, bq, z_15, nu, wr, wa), rfl, rfl, (nx_eq (p := (0, be, 0, nu, wr, wa)) (a := aq) haq2 (Eq.symm (Eq.trans (tkB_w (by omega) hsm) (Eq.symm (by first | exact rn_st hrb (rn_no hgsn) | exact rn_st hrb (rn_end (by omega)))))) (f_16.trans (tkK_w (by omega) hsm).symm) (tkN_w hsm).symm rfl rfl)⟩ dX8_next_270
              · have V : gW D T A s [(o, .inr (8, [.int w0, .ref g1, .ref g2, .ref g3, .ref g4, .int (nI tp), .int (nI aq), .int (nI bq), .int (nI sz), .int w9, .int nu, .int (nI wr), .int wa, .int w13, .int w14, .ref g15, .int w16, .ref g17, .int w18, .int w19, .ref g20, .int w21, .ref g22, .ref g23, .ref g24, .int w25, .int w26, .int w27, .ref g28, .ref g29, .int w30, .ref g31, .ref g32, .ref g33])), (g3, .inl (T 0, 900, .inl ft))] H locs := V
                show W p l e _ s m args below meth c H locs _ _ _ (F0 m 97 ls [.int z_10])
                refine g_callSU (nA := 1) hC V hl.1 (f_isSmall l D T z_10) w_1034 w_1035 w_9 w_1036 (by decide +kernel) rfl ⟨(Nat.le_of_ble_eq_true rfl), (Nat.le_of_ble_eq_true rfl)⟩ [] rfl rfl (Nat.le_of_ble_eq_true rfl) dX8_next_97 ⟨(Nat.le_of_ble_eq_true rfl), (Nat.le_of_ble_eq_true rfl)⟩ rfl (fun r w1 H locs hQ V => ?_)
                rcases hQ with ⟨rfl, rfl, f_17⟩ | ⟨rfl, rfl, f_18⟩
                · have V : gW D T A s [(o, .inr (8, [.int w0, .ref g1, .ref g2, .ref g3, .ref g4, .int (nI tp), .int (nI aq), .int (nI bq), .int (nI sz), .int w9, .int nu, .int (nI wr), .int wa, .int w13, .int w14, .ref g15, .int w16, .ref g17, .int w18, .int w19, .ref g20, .int w21, .ref g22, .ref g23, .ref g24, .int w25, .int w26, .int w27, .ref g28, .ref g29, .int w30, .ref g31, .ref g32, .ref g33])), (g3, .inl (T 0, 900, .inl ft))] H locs := V _ [] rfl rfl rfl (by decide +kernel) rfl
                  show W p l e _ s m args below meth c H locs _ _ _ (F0 m 100 ls [.int (nI 1)])
                  have hgs : smB (ft bq) = true := f_12 ▸ f_17
                  refine lv_if_eq (tgt := 116) hx hb dX8_next_100 (by decide) (fun c => absurd (show (nI 1) = 0 from c) (by decide +kernel)) (fun _ => ?_)
                  refine lv_aload_n hx hb dX8_next_103 rfl (lv_at hl 0 rfl) ?_
                  refine lv_dup hx hb dX8_next_104 rfl ?_
                  refine g_get hC V (ci := 8) uwX8 0 rfl rfl 7 (by decide) w_919 rfl rfl dX8_next_105 ?_
                  refine lv_iconst (v := (nI 1)) hx hb dX8_next_108 (by decide +kernel) ?_
                  refine lv_iadd hx hb dX8_next_109 ?_
                  refine g_vi (y := (nI (bq + 1))) (nI_add _ _) ?_
                  refine g_put hC V (ci := 8) uwX8 tyX8 tyX8_ok nmX8 0 rfl rfl 7 (by decide) w_919 rfl rfl rfl rfl (Nat.le_of_ble_eq_true rfl) (ws' := [(o, .inr (8, [.int w0, .ref g1, .ref g2, .ref g3, .ref g4, .int (nI tp), .int (nI aq), .int (nI (bq + 1)), .int (nI sz), .int w9, .int nu, .int (nI wr), .int wa, .int w13, .int w14, .ref g15, .int w16, .ref g17, .int w18, .int w19, .ref g20, .int w21, .ref g22, .ref g23, .ref g24, .int w25, .int w26, .int w27, .ref g28, .ref g29, .int w30, .ref g31, .ref g32, .ref g33])), (g3, .inl (T 0, 900, .inl ft))]) rfl dX8_next_110 (fun H locs V => ?_)
                  refine lv_goto (tgt := 89) hx hb dX8_next_113 (by decide) ?_
                  exact ih_89 (bq + 1) (by omega) ((rn_go (by omega) hgs).symm.trans hrb) (by omega) _ _ _ V (lv_sub hl [0] rfl)
                · have V : gW D T A s [(o, .inr (8, [.int w0, .ref g1, .ref g2, .ref g3, .ref g4, .int (nI tp), .int (nI aq), .int (nI bq), .int (nI sz), .int w9, .int nu, .int (nI wr), .int wa, .int w13, .int w14, .ref g15, .int w16, .ref g17, .int w18, .int w19, .ref g20, .int w21, .ref g22, .ref g23, .ref g24, .int w25, .int w26, .int w27, .ref g28, .ref g29, .int w30, .ref g31, .ref g32, .ref g33])), (g3, .inl (T 0, 900, .inl ft))] H locs := V _ [] rfl rfl rfl (by decide +kernel) rfl
                  show W p l e _ s m args below meth c H locs _ _ _ (F0 m 100 ls [.int (nI 0)])
                  have hgsn : ¬ smB (ft bq) = true := f_12 ▸ f_18
                  refine lv_if_eq (tgt := 116) hx hb dX8_next_100 (by decide) (fun _ => ?_) (fun c => absurd (show (nI 0) = 0 by decide +kernel) c)
                  refine lv_aload_n hx hb dX8_next_116 rfl (lv_at hl 0 rfl) ?_
                  refine lv_aload_n hx hb dX8_next_117 rfl (lv_at hl 0 rfl) ?_
                  refine g_callV (wr := []) (nA := 0) hC V hl.1 (m_keyAt_f l D T o w0 g1 g2 g3 g4 tp aq bq sz w9 nu (nI wr) wa w13 w14 g15 w16 g17 w18 w19 g20 w21 g22 g23 g24 w25 w26 w27 g28 g29 w30 g31 g32 g33 ft (by first | assumption | omega) (by first | assumption | omega)) w_1037 w_1039 w_s38 w_9 w_1040 (by decide +kernel) rfl ⟨(Nat.le_of_ble_eq_true rfl), (Nat.le_of_ble_eq_true rfl)⟩ 0 (ci := 8) rfl rfl [0, 1] [] rfl rfl rfl rfl (by decide) (Nat.le_of_ble_eq_true rfl) dX8_next_118 ⟨(Nat.le_of_ble_eq_true rfl), (Nat.le_of_ble_eq_true rfl)⟩ rfl (fun r w1 H locs hQ V => ?_)
                  obtain ⟨z_19, rfl, rfl, f_20⟩ := hQ
                  have V : gW D T A s [(o, .inr (8, [.int w0, .ref g1, .ref g2, .ref g3, .ref g4, .int (nI tp), .int (nI aq), .int (nI bq), .int (nI sz), .int w9, .int nu, .int (nI wr), .int wa, .int w13, .int w14, .ref g15, .int w16, .ref g17, .int w18, .int w19, .ref g20, .int w21, .ref g22, .ref g23, .ref g24, .int w25, .int w26, .int w27, .ref g28, .ref g29, .int w30, .ref g31, .ref g32, .ref g33])), (g3, .inl (T 0, 900, .inl ft))] H locs := V
                  show W p l e _ s m args below meth c H locs _ _ _ (F0 m 121 ls [.int (nI z_19), .ref o])
                  refine g_put hC V (ci := 8) uwX8 tyX8 tyX8_ok nmX8 0 rfl rfl 9 (by decide) w_921 rfl rfl rfl rfl (Nat.le_of_ble_eq_true rfl) (ws' := [(o, .inr (8, [.int w0, .ref g1, .ref g2, .ref g3, .ref g4, .int (nI tp), .int (nI aq), .int (nI bq), .int (nI sz), .int (nI z_19), .int nu, .int (nI wr), .int wa, .int w13, .int w14, .ref g15, .int w16, .ref g17, .int w18, .int w19, .ref g20, .int w21, .ref g22, .ref g23, .ref g24, .int w25, .int w26, .int w27, .ref g28, .ref g29, .int w30, .ref g31, .ref g32, .ref g33])), (g3, .inl (T 0, 900, .inl ft))]) rfl dX8_next_121 (fun H locs V => ?_)
                  refine lv_goto (tgt := 270) hx hb dX8_next_124 (by decide) ?_
                  exact g_vret (Qr := (q_m_next_f T o w0 g1 g2 g3 g4 tp w6 be sz w9 nu wr wa w13 w14 g15 w16 g17 w18 w19 g20 w21 g22 g23 g24 w25 w26 w27 g28 g29 w30 g31 g32 g33 ft)) hC V ⟨(Nat.le_of_ble_eq_true rfl), (Nat.le_of_ble_eq_true rfl)⟩ ⟨(aq, bq, z_19, nu, wr, wa), rfl, rfl, (nx_eq (p := (0, be, 0, nu, wr, wa)) (a := aq) haq2 (Eq.symm (Eq.trans (tkB_w (by omega) hsm) (Eq.symm (by first | exact rn_st hrb (rn_no hgsn) | exact rn_st hrb (rn_end (by omega)))))) (f_20.trans (tkK_w (by omega) hsm).symm) (tkN_w hsm).symm rfl rfl)⟩ dX8_next_270
          exact L_8 _ aq (by omega) rfl (Nat.lt_succ_self _) _ _ _ V (lv_sub hl [0] rfl)
        · have V : gW D T A s [(o, .inr (8, [.int w0, .ref g1, .ref g2, .ref g3, .ref g4, .int (nI tp), .int (nI aq), .int (nI aq), .int (nI sz), .int w9, .int nu, .int (nI wr), .int wa, .int w13, .int w14, .ref g15, .int w16, .ref g17, .int w18, .int w19, .ref g20, .int w21, .ref g22, .ref g23, .ref g24, .int w25, .int w26, .int w27, .ref g28, .ref g29, .int w30, .ref g31, .ref g32, .ref g33])), (g3, .inl (T 0, 900, .inl ft))] H locs := V _ [] rfl rfl rfl (by decide +kernel) rfl
          show W p l e _ s m args below meth c H locs _ _ _ (F0 m 86 ls [.int (nI 0)])
          have hsmn : ¬ smB (ft aq) = true := f_5 ▸ f_7
          refine lv_if_eq (tgt := 127) hx hb dX8_next_86 (by decide) (fun _ => ?_) (fun c => absurd (show (nI 0) = 0 by decide +kernel) c)
          refine lv_aload_n hx hb dX8_next_127 rfl (lv_at hl 0 rfl) ?_
          refine lv_aload_n hx hb dX8_next_128 rfl (lv_at hl 0 rfl) ?_
          refine g_get hC V (ci := 8) uwX8 0 rfl rfl 6 (by decide) w_918 rfl rfl dX8_next_129 ?_
          refine g_callV (wr := []) (nA := 1) hC V hl.1 (m_see l D T o aq w0 g1 g2 g3 g4 tp (nI aq) (nI aq) sz w9 nu (nI wr) wa w13 w14 g15 w16 g17 w18 w19 g20 w21 g22 g23 g24 w25 w26 w27 g28 g29 w30 g31 g32 g33 ft (by first | assumption | omega) (by first | assumption | omega)) w_1030 w_1032 w_s37 w_9 w_1033 (by decide +kernel) rfl ⟨(Nat.le_of_ble_eq_true rfl), (Nat.le_of_ble_eq_true rfl)⟩ 0 (ci := 8) rfl rfl [0, 1] [] rfl rfl rfl rfl (by decide) (Nat.le_of_ble_eq_true rfl) dX8_next_132 ⟨(Nat.le_of_ble_eq_true rfl), (Nat.le_of_ble_eq_true rfl)⟩ rfl (fun r w1 H locs hQ V => ?_)
          rcases hQ with ⟨rfl, rfl, f_21⟩ | ⟨z_22, rfl, rfl, f_23, f_24⟩
          · have V : gW D T A s [(o, .inr (8, [.int w0, .ref g1, .ref g2, .ref g3, .ref g4, .int (nI tp), .int (nI aq), .int (nI aq), .int (nI sz), .int w9, .int nu, .int (nI wr), .int wa, .int w13, .int w14, .ref g15, .int w16, .ref g17, .int w18, .int w19, .ref g20, .int w21, .ref g22, .ref g23, .ref g24, .int w25, .int w26, .int w27, .ref g28, .ref g29, .int w30, .ref g31, .ref g32, .ref g33])), (g3, .inl (T 0, 900, .inl ft))] H locs := V
            show W p l e _ s m args below meth c H locs _ _ _ (F0 m 135 ls [.int (-1)])
            exact (by omega : False).elim
          · have V : gW D T A s [(o, .inr (8, [.int w0, .ref g1, .ref g2, .ref g3, .ref g4, .int (nI tp), .int (nI aq), .int (nI aq), .int (nI sz), .int w9, .int nu, .int (nI wr), .int wa, .int w13, .int w14, .ref g15, .int w16, .ref g17, .int w18, .int w19, .ref g20, .int w21, .ref g22, .ref g23, .ref g24, .int w25, .int w26, .int w27, .ref g28, .ref g29, .int w30, .ref g31, .ref g32, .ref g33])), (g3, .inl (T 0, 900, .inl ft))] H locs := V
            show W p l e _ s m args below meth c H locs _ _ _ (F0 m 135 ls [.int z_22])
            refine g_callSU (nA := 1) hC V hl.1 (f_isDigit l D T z_22) w_1044 w_1045 w_9 w_1046 (by decide +kernel) rfl ⟨(Nat.le_of_ble_eq_true rfl), (Nat.le_of_ble_eq_true rfl)⟩ [] rfl rfl (Nat.le_of_ble_eq_true rfl) dX8_next_135 ⟨(Nat.le_of_ble_eq_true rfl), (Nat.le_of_ble_eq_true rfl)⟩ rfl (fun r w1 H locs hQ V => ?_)
            rcases hQ with ⟨rfl, rfl, f_25⟩ | ⟨rfl, rfl, f_26⟩
            · have V : gW D T A s [(o, .inr (8, [.int w0, .ref g1, .ref g2, .ref g3, .ref g4, .int (nI tp), .int (nI aq), .int (nI aq), .int (nI sz), .int w9, .int nu, .int (nI wr), .int wa, .int w13, .int w14, .ref g15, .int w16, .ref g17, .int w18, .int w19, .ref g20, .int w21, .ref g22, .ref g23, .ref g24, .int w25, .int w26, .int w27, .ref g28, .ref g29, .int w30, .ref g31, .ref g32, .ref g33])), (g3, .inl (T 0, 900, .inl ft))] H locs := V _ [] rfl rfl rfl (by decide +kernel) rfl
              show W p l e _ s m args below meth c H locs _ _ _ (F0 m 138 ls [.int (nI 1)])
              have hdg : dgB (ft aq) = true := f_24 ▸ f_25
              refine lv_if_eq (tgt := 236) hx hb dX8_next_138 (by decide) (fun c => absurd (show (nI 1) = 0 from c) (by decide +kernel)) (fun _ => ?_)
              refine lv_aload_n hx hb dX8_next_141 rfl (lv_at hl 0 rfl) ?_
              refine lv_iconst (v := (nI 0)) hx hb dX8_next_142 (by decide +kernel) ?_
              refine g_put hC V (ci := 8) uwX8 tyX8 tyX8_ok nmX8 0 rfl rfl 10 (by decide) w_922 rfl rfl rfl rfl (Nat.le_of_ble_eq_true rfl) (ws' := [(o, .inr (8, [.int w0, .ref g1, .ref g2, .ref g3, .ref g4, .int (nI tp), .int (nI aq), .int (nI aq), .int (nI sz), .int w9, .int (nI 0), .int (nI wr), .int wa, .int w13, .int w14, .ref g15, .int w16, .ref g17, .int w18, .int w19, .ref g20, .int w21, .ref g22, .ref g23, .ref g24, .int w25, .int w26, .int w27, .ref g28, .ref g29, .int w30, .ref g31, .ref g32, .ref g33])), (g3, .inl (T 0, 900, .inl ft))]) rfl dX8_next_143 (fun H locs V => ?_)
              have L_27 : ∀ (fu : Nat) (bq : Nat) (nq : Int32), (aq ≤ bq ∧ bq ≤ sz) → rn dgB ft sz bq = rn dgB ft sz aq → nq = nuV ft aq (min 3 (bq - aq)) → sz - bq < fu → ∀ (H : Heap) (locs : List Loc) (ls : Array Slot), gW D T A s [(o, .inr (8, [.int w0, .ref g1, .ref g2, .ref g3, .ref g4, .int (nI tp), .int (nI aq), .int (nI bq), .int (nI sz), .int w9, .int nq, .int (nI wr), .int wa, .int w13, .int w14, .ref g15, .int w16, .ref g17, .int w18, .int w19, .ref g20, .int w21, .ref g22, .ref g23, .ref g24, .int w25, .int w26, .int w27, .ref g28, .ref g29, .int w30, .ref g31, .ref g32, .ref g33])), (g3, .inl (T 0, 900, .inl ft))] H locs → lv_has ls 1 [(0, .ref o)] → W p l e (rmD 5 0 0) s m args below meth c H locs 0 0 (MQ below (gQ D A (q_m_next_f T o w0 g1 g2 g3 g4 tp w6 be sz w9 nu wr wa w13 w14 g15 w16 g17 w18 w19 g20 w21 g22 g23 g24 w25 w26 w27 g28 g29 w30 g31 g32 g33 ft)) args s 0 0 A) (F0 m 146 ls []) := by
                intro fu_146
                induction fu_146 with
                | zero => intro bq nq hbq hrb hnq hmu; exact absurd hmu (Nat.not_lt_zero _)
                | succ fu_146 ih_146 =>
                  intro bq nq hbq hrb hnq hmu_146 H locs ls V hl
                  refine lv_aload_n hx hb dX8_next_146 rfl (lv_at hl 0 rfl) ?_
                  refine lv_aload_n hx hb dX8_next_147 rfl (lv_at hl 0 rfl) ?_
                  refine g_get hC V (ci := 8) uwX8 0 rfl rfl 7 (by decide) w_919 rfl rfl dX8_next_148 ?_
                  refine g_callV (wr := []) (nA := 1) hC V hl.1 (m_see l D T o bq w0 g1 g2 g3 g4 tp (nI aq) (nI bq) sz w9 nq (nI wr) wa w13 w14 g15 w16 g17 w18 w19 g20 w21 g22 g23 g24 w25 w26 w27 g28 g29 w30 g31 g32 g33 ft (by first | assumption | omega) (by first | assumption | omega)) w_1030 w_1032 w_s37 w_9 w_1033 (by decide +kernel) rfl ⟨(Nat.le_of_ble_eq_true rfl), (Nat.le_of_ble_eq_true rfl)⟩ 0 (ci := 8) rfl rfl [0, 1] [] rfl rfl rfl rfl (by decide) (Nat.le_of_ble_eq_true rfl) dX8_next_151 ⟨(Nat.le_of_ble_eq_true rfl), (Nat.le_of_ble_eq_true rfl)⟩ rfl (fun r w1 H locs hQ V => ?_)
                  rcases hQ with ⟨rfl, rfl, f_28⟩ | ⟨z_29, rfl, rfl, f_30, f_31⟩
                  · have V : gW D T A s [(o, .inr (8, [.int w0, .ref g1, .ref g2, .ref g3, .ref g4, .int (nI tp), .int (nI aq), .int (nI bq), .int (nI sz), .int w9, .int nq, .int (nI wr), .int wa, .int w13, .int w14, .ref g15, .int w16, .ref g17, .int w18, .int w19, .ref g20, .int w21, .ref g22, .ref g23, .ref g24, .int w25, .int w26, .int w27, .ref g28, .ref g29, .int w30, .ref g31, .ref g32, .ref g33])), (g3, .inl (T 0, 900, .inl ft))] H locs := V
                    show W p l e _ s m args below meth c H locs _ _ _ (F0 m 154 ls [.int (-1)])
                    refine g_callSU (nA := 1) hC V hl.1 (f_isDigit l D T (-1)) w_1044 w_1045 w_9 w_1046 (by decide +kernel) rfl ⟨(Nat.le_of_ble_eq_true rfl), (Nat.le_of_ble_eq_true rfl)⟩ [] rfl rfl (Nat.le_of_ble_eq_true rfl) dX8_next_154 ⟨(Nat.le_of_ble_eq_true rfl), (Nat.le_of_ble_eq_true rfl)⟩ rfl (fun r w1 H locs hQ V => ?_)
                    rcases hQ with ⟨rfl, rfl, f_32⟩ | ⟨rfl, rfl, f_33⟩
                    · have V : gW D T A s [(o, .inr (8, [.int w0, .ref g1, .ref g2, .ref g3, .ref g4, .int (nI tp), .int (nI aq), .int (nI bq), .int (nI sz), .int w9, .int nq, .int (nI wr), .int wa, .int w13, .int w14, .ref g15, .int w16, .ref g17, .int w18, .int w19, .ref g20, .int w21, .ref g22, .ref g23, .ref g24, .int w25, .int w26, .int w27, .ref g28, .ref g29, .int w30, .ref g31, .ref g32, .ref g33])), (g3, .inl (T 0, 900, .inl ft))] H locs := V _ [] rfl rfl rfl (by decide +kernel) rfl
                      show W p l e _ s m args below meth c H locs _ _ _ (F0 m 157 ls [.int (nI 1)])
                      exact absurd f_32 dg_m1
                    · have V : gW D T A s [(o, .inr (8, [.int w0, .ref g1, .ref g2, .ref g3, .ref g4, .int (nI tp), .int (nI aq), .int (nI bq), .int (nI sz), .int w9, .int nq, .int (nI wr), .int wa, .int w13, .int w14, .ref g15, .int w16, .ref g17, .int w18, .int w19, .ref g20, .int w21, .ref g22, .ref g23, .ref g24, .int w25, .int w26, .int w27, .ref g28, .ref g29, .int w30, .ref g31, .ref g32, .ref g33])), (g3, .inl (T 0, 900, .inl ft))] H locs := V _ [] rfl rfl rfl (by decide +kernel) rfl
                      show W p l e _ s m args below meth c H locs _ _ _ (F0 m 157 ls [.int (nI 0)])
                      refine lv_if_eq (tgt := 209) hx hb dX8_next_157 (by decide) (fun _ => ?_) (fun c => absurd (show (nI 0) = 0 by decide +kernel) c)
                      refine lv_aload_n hx hb dX8_next_209 rfl (lv_at hl 0 rfl) ?_
                      refine lv_aload_n hx hb dX8_next_210 rfl (lv_at hl 0 rfl) ?_
                      refine g_get hC V (ci := 8) uwX8 0 rfl rfl 7 (by decide) w_919 rfl rfl dX8_next_211 ?_
                      refine lv_aload_n hx hb dX8_next_214 rfl (lv_at hl 0 rfl) ?_
                      refine g_get hC V (ci := 8) uwX8 0 rfl rfl 6 (by decide) w_918 rfl rfl dX8_next_215 ?_
                      refine lv_isub hx hb dX8_next_218 ?_
                      refine g_vi (y := (nI (bq - aq))) (nI_sub (by omega)) ?_
                      refine lv_iconst (v := (nI 3)) hx hb dX8_next_219 (by decide +kernel) ?_
                      refine lv_icmp_le (tgt := 228) hx hb dX8_next_220 (by decide) (fun c_34 => ?_) (fun c_34 => ?_)
                      · skip
                        have c_34 := b_le (by omega) (by omega) c_34
                        refine lv_bipush (v := (nI 9)) hx hb dX8_next_228 (by decide +kernel) ?_
                        refine g_put hC V (ci := 8) uwX8 tyX8 tyX8_ok nmX8 0 rfl rfl 9 (by decide) w_921 rfl rfl rfl rfl (Nat.le_of_ble_eq_true rfl) (ws' := [(o, .inr (8, [.int w0, .ref g1, .ref g2, .ref g3, .ref g4, .int (nI tp), .int (nI aq), .int (nI bq), .int (nI sz), .int (nI 9), .int nq, .int (nI wr), .int wa, .int w13, .int w14, .ref g15, .int w16, .ref g17, .int w18, .int w19, .ref g20, .int w21, .ref g22, .ref g23, .ref g24, .int w25, .int w26, .int w27, .ref g28, .ref g29, .int w30, .ref g31, .ref g32, .ref g33])), (g3, .inl (T 0, 900, .inl ft))]) rfl dX8_next_230 (fun H locs V => ?_)
                        refine lv_goto (tgt := 270) hx hb dX8_next_233 (by decide) ?_
                        exact g_vret (Qr := (q_m_next_f T o w0 g1 g2 g3 g4 tp w6 be sz w9 nu wr wa w13 w14 g15 w16 g17 w18 w19 g20 w21 g22 g23 g24 w25 w26 w27 g28 g29 w30 g31 g32 g33 ft)) hC V ⟨(Nat.le_of_ble_eq_true rfl), (Nat.le_of_ble_eq_true rfl)⟩ ⟨(aq, bq, 9, nq, wr, wa), rfl, rfl, (nx_eq (p := (0, be, 0, nu, wr, wa)) (a := aq) haq2 (Eq.symm (Eq.trans (tkB_d (by omega) hsmn hdg) (Eq.symm (by first | exact rn_st hrb (rn_no hgdn) | exact rn_st hrb (rn_end (by omega)))))) (tkK_d9 (by omega) hsmn hdg (by omega)).symm (hnq.trans (tkN_d (by omega) hsmn hdg).symm) rfl rfl)⟩ dX8_next_270
                      · skip
                        have c_34 := b_nle (by omega) (by omega) c_34
                        refine lv_bipush (v := (nI 12)) hx hb dX8_next_223 (by decide +kernel) ?_
                        refine lv_goto (tgt := 230) hx hb dX8_next_225 (by decide) ?_
                        refine g_put hC V (ci := 8) uwX8 tyX8 tyX8_ok nmX8 0 rfl rfl 9 (by decide) w_921 rfl rfl rfl rfl (Nat.le_of_ble_eq_true rfl) (ws' := [(o, .inr (8, [.int w0, .ref g1, .ref g2, .ref g3, .ref g4, .int (nI tp), .int (nI aq), .int (nI bq), .int (nI sz), .int (nI 12), .int nq, .int (nI wr), .int wa, .int w13, .int w14, .ref g15, .int w16, .ref g17, .int w18, .int w19, .ref g20, .int w21, .ref g22, .ref g23, .ref g24, .int w25, .int w26, .int w27, .ref g28, .ref g29, .int w30, .ref g31, .ref g32, .ref g33])), (g3, .inl (T 0, 900, .inl ft))]) rfl dX8_next_230 (fun H locs V => ?_)
                        refine lv_goto (tgt := 270) hx hb dX8_next_233 (by decide) ?_
                        exact g_vret (Qr := (q_m_next_f T o w0 g1 g2 g3 g4 tp w6 be sz w9 nu wr wa w13 w14 g15 w16 g17 w18 w19 g20 w21 g22 g23 g24 w25 w26 w27 g28 g29 w30 g31 g32 g33 ft)) hC V ⟨(Nat.le_of_ble_eq_true rfl), (Nat.le_of_ble_eq_true rfl)⟩ ⟨(aq, bq, 12, nq, wr, wa), rfl, rfl, (nx_eq (p := (0, be, 0, nu, wr, wa)) (a := aq) haq2 (Eq.symm (Eq.trans (tkB_d (by omega) hsmn hdg) (Eq.symm (by first | exact rn_st hrb (rn_no hgdn) | exact rn_st hrb (rn_end (by omega)))))) (tkK_d12 (by omega) hsmn hdg (by omega)).symm (hnq.trans (tkN_d (by omega) hsmn hdg).symm) rfl rfl)⟩ dX8_next_270
                  · have V : gW D T A s [(o, .inr (8, [.int w0, .ref g1, .ref g2, .ref g3, .ref g4, .int (nI tp), .int (nI aq), .int (nI bq), .int (nI sz), .int w9, .int nq, .int (nI wr), .int wa, .int w13, .int w14, .ref g15, .int w16, .ref g17, .int w18, .int w19, .ref g20, .int w21, .ref g22, .ref g23, .ref g24, .int w25, .int w26, .int w27, .ref g28, .ref g29, .int w30, .ref g31, .ref g32, .ref g33])), (g3, .inl (T 0, 900, .inl ft))] H locs := V
                    show W p l e _ s m args below meth c H locs _ _ _ (F0 m 154 ls [.int z_29])
                    refine g_callSU (nA := 1) hC V hl.1 (f_isDigit l D T z_29) w_1044 w_1045 w_9 w_1046 (by decide +kernel) rfl ⟨(Nat.le_of_ble_eq_true rfl), (Nat.le_of_ble_eq_true rfl)⟩ [] rfl rfl (Nat.le_of_ble_eq_true rfl) dX8_next_154 ⟨(Nat.le_of_ble_eq_true rfl), (Nat.le_of_ble_eq_true rfl)⟩ rfl (fun r w1 H locs hQ V => ?_)
                    rcases hQ with ⟨rfl, rfl, f_35⟩ | ⟨rfl, rfl, f_36⟩
                    · have V : gW D T A s [(o, .inr (8, [.int w0, .ref g1, .ref g2, .ref g3, .ref g4, .int (nI tp), .int (nI aq), .int (nI bq), .int (nI sz), .int w9, .int nq, .int (nI wr), .int wa, .int w13, .int w14, .ref g15, .int w16, .ref g17, .int w18, .int w19, .ref g20, .int w21, .ref g22, .ref g23, .ref g24, .int w25, .int w26, .int w27, .ref g28, .ref g29, .int w30, .ref g31, .ref g32, .ref g33])), (g3, .inl (T 0, 900, .inl ft))] H locs := V _ [] rfl rfl rfl (by decide +kernel) rfl
                      show W p l e _ s m args below meth c H locs _ _ _ (F0 m 157 ls [.int (nI 1)])
                      have hgd : dgB (ft bq) = true := f_31 ▸ f_35
                      refine lv_if_eq (tgt := 209) hx hb dX8_next_157 (by decide) (fun c => absurd (show (nI 1) = 0 from c) (by decide +kernel)) (fun _ => ?_)
                      refine lv_aload_n hx hb dX8_next_160 rfl (lv_at hl 0 rfl) ?_
                      refine g_get hC V (ci := 8) uwX8 0 rfl rfl 7 (by decide) w_919 rfl rfl dX8_next_161 ?_
                      refine lv_aload_n hx hb dX8_next_164 rfl (lv_at hl 0 rfl) ?_
                      refine g_get hC V (ci := 8) uwX8 0 rfl rfl 6 (by decide) w_918 rfl rfl dX8_next_165 ?_
                      refine lv_isub hx hb dX8_next_168 ?_
                      refine g_vi (y := (nI (bq - aq))) (nI_sub (by omega)) ?_
                      refine lv_iconst (v := (nI 3)) hx hb dX8_next_169 (by decide +kernel) ?_
                      refine lv_icmp_ge (tgt := 196) hx hb dX8_next_170 (by decide) (fun c_37 => ?_) (fun c_37 => ?_)
                      · skip
                        have c_37 := b_le (by omega) (by omega) c_37
                        refine lv_aload_n hx hb dX8_next_196 rfl (lv_at hl 0 rfl) ?_
                        refine lv_dup hx hb dX8_next_197 rfl ?_
                        refine g_get hC V (ci := 8) uwX8 0 rfl rfl 7 (by decide) w_919 rfl rfl dX8_next_198 ?_
                        refine lv_iconst (v := (nI 1)) hx hb dX8_next_201 (by decide +kernel) ?_
                        refine lv_iadd hx hb dX8_next_202 ?_
                        refine g_vi (y := (nI (bq + 1))) (nI_add _ _) ?_
                        refine g_put hC V (ci := 8) uwX8 tyX8 tyX8_ok nmX8 0 rfl rfl 7 (by decide) w_919 rfl rfl rfl rfl (Nat.le_of_ble_eq_true rfl) (ws' := [(o, .inr (8, [.int w0, .ref g1, .ref g2, .ref g3, .ref g4, .int (nI tp), .int (nI aq), .int (nI (bq + 1)), .int (nI sz), .int w9, .int nq, .int (nI wr), .int wa, .int w13, .int w14, .ref g15, .int w16, .ref g17, .int w18, .int w19, .ref g20, .int w21, .ref g22, .ref g23, .ref g24, .int w25, .int w26, .int w27, .ref g28, .ref g29, .int w30, .ref g31, .ref g32, .ref g33])), (g3, .inl (T 0, 900, .inl ft))]) rfl dX8_next_203 (fun H locs V => ?_)
                        refine lv_goto (tgt := 146) hx hb dX8_next_206 (by decide) ?_
                        exact ih_146 (bq + 1) nq (by omega) ((rn_go (by omega) hgd).symm.trans hrb) (nu_st hnq (by omega)) (by omega) _ _ _ V (lv_sub hl [0] rfl)
                      · skip
                        have c_37 := b_nle (by omega) (by omega) c_37
                        refine lv_aload_n hx hb dX8_next_173 rfl (lv_at hl 0 rfl) ?_
                        refine lv_bipush (v := (nI 10)) hx hb dX8_next_174 (by decide +kernel) ?_
                        refine lv_aload_n hx hb dX8_next_176 rfl (lv_at hl 0 rfl) ?_
                        refine g_get hC V (ci := 8) uwX8 0 rfl rfl 10 (by decide) w_922 rfl rfl dX8_next_177 ?_
                        refine lv_imul hx hb dX8_next_180 ?_
                        refine lv_aload_n hx hb dX8_next_181 rfl (lv_at hl 0 rfl) ?_
                        refine lv_aload_n hx hb dX8_next_182 rfl (lv_at hl 0 rfl) ?_
                        refine g_get hC V (ci := 8) uwX8 0 rfl rfl 7 (by decide) w_919 rfl rfl dX8_next_183 ?_
                        refine g_callV (wr := []) (nA := 1) hC V hl.1 (m_see l D T o bq w0 g1 g2 g3 g4 tp (nI aq) (nI bq) sz w9 nq (nI wr) wa w13 w14 g15 w16 g17 w18 w19 g20 w21 g22 g23 g24 w25 w26 w27 g28 g29 w30 g31 g32 g33 ft (by first | assumption | omega) (by first | assumption | omega)) w_1030 w_1032 w_s37 w_9 w_1033 (by decide +kernel) rfl ⟨(Nat.le_of_ble_eq_true rfl), (Nat.le_of_ble_eq_true rfl)⟩ 0 (ci := 8) rfl rfl [0, 1] [] rfl rfl rfl rfl (by decide) (Nat.le_of_ble_eq_true rfl) dX8_next_186 ⟨(Nat.le_of_ble_eq_true rfl), (Nat.le_of_ble_eq_true rfl)⟩ rfl (fun r w1 H locs hQ V => ?_)
                        rcases hQ with ⟨rfl, rfl, f_38⟩ | ⟨z_39, rfl, rfl, f_40, f_41⟩
                        · have V : gW D T A s [(o, .inr (8, [.int w0, .ref g1, .ref g2, .ref g3, .ref g4, .int (nI tp), .int (nI aq), .int (nI bq), .int (nI sz), .int w9, .int nq, .int (nI wr), .int wa, .int w13, .int w14, .ref g15, .int w16, .ref g17, .int w18, .int w19, .ref g20, .int w21, .ref g22, .ref g23, .ref g24, .int w25, .int w26, .int w27, .ref g28, .ref g29, .int w30, .ref g31, .ref g32, .ref g33])), (g3, .inl (T 0, 900, .inl ft))] H locs := V
                          show W p l e _ s m args below meth c H locs _ _ _ (F0 m 189 ls [.int (-1), .int ((nI 10) * nq), .ref o])
                          exact (by omega : False).elim
                        · have V : gW D T A s [(o, .inr (8, [.int w0, .ref g1, .ref g2, .ref g3, .ref g4, .int (nI tp), .int (nI aq), .int (nI bq), .int (nI sz), .int w9, .int nq, .int (nI wr), .int wa, .int w13, .int w14, .ref g15, .int w16, .ref g17, .int w18, .int w19, .ref g20, .int w21, .ref g22, .ref g23, .ref g24, .int w25, .int w26, .int w27, .ref g28, .ref g29, .int w30, .ref g31, .ref g32, .ref g33])), (g3, .inl (T 0, 900, .inl ft))] H locs := V
                          show W p l e _ s m args below meth c H locs _ _ _ (F0 m 189 ls [.int z_39, .int ((nI 10) * nq), .ref o])
                          refine lv_iadd hx hb dX8_next_189 ?_
                          refine lv_bipush (v := (nI 48)) hx hb dX8_next_190 (by decide +kernel) ?_
                          refine lv_isub hx hb dX8_next_192 ?_
                          refine g_put hC V (ci := 8) uwX8 tyX8 tyX8_ok nmX8 0 rfl rfl 10 (by decide) w_922 rfl rfl rfl rfl (Nat.le_of_ble_eq_true rfl) (ws' := [(o, .inr (8, [.int w0, .ref g1, .ref g2, .ref g3, .ref g4, .int (nI tp), .int (nI aq), .int (nI bq), .int (nI sz), .int w9, .int ((((nI 10) * nq) + z_39) - (nI 48)), .int (nI wr), .int wa, .int w13, .int w14, .ref g15, .int w16, .ref g17, .int w18, .int w19, .ref g20, .int w21, .ref g22, .ref g23, .ref g24, .int w25, .int w26, .int w27, .ref g28, .ref g29, .int w30, .ref g31, .ref g32, .ref g33])), (g3, .inl (T 0, 900, .inl ft))]) rfl dX8_next_193 (fun H locs V => ?_)
                          refine lv_aload_n hx hb dX8_next_196 rfl (lv_at hl 0 rfl) ?_
                          refine lv_dup hx hb dX8_next_197 rfl ?_
                          refine g_get hC V (ci := 8) uwX8 0 rfl rfl 7 (by decide) w_919 rfl rfl dX8_next_198 ?_
                          refine lv_iconst (v := (nI 1)) hx hb dX8_next_201 (by decide +kernel) ?_
                          refine lv_iadd hx hb dX8_next_202 ?_
                          refine g_vi (y := (nI (bq + 1))) (nI_add _ _) ?_
                          refine g_put hC V (ci := 8) uwX8 tyX8 tyX8_ok nmX8 0 rfl rfl 7 (by decide) w_919 rfl rfl rfl rfl (Nat.le_of_ble_eq_true rfl) (ws' := [(o, .inr (8, [.int w0, .ref g1, .ref g2, .ref g3, .ref g4, .int (nI tp), .int (nI aq), .int (nI (bq + 1)), .int (nI sz), .int w9, .int ((((nI 10) * nq) + z_39) - (nI 48)), .int (nI wr), .int wa, .int w13, .int w14, .ref g15, .int w16, .ref g17, .int w18, .int w19, .ref g20, .int w21, .ref g22, .ref g23, .ref g24, .int w25, .int w26, .int w27, .ref g28, .ref g29, .int w30, .ref g31, .ref g32, .ref g33])), (g3, .inl (T 0, 900, .inl ft))]) rfl dX8_next_203 (fun H locs V => ?_)
                          refine lv_goto (tgt := 146) hx hb dX8_next_206 (by decide) ?_
                          exact ih_146 (bq + 1) ((((nI 10) * nq) + z_39) - (nI 48)) (by omega) ((rn_go (by omega) hgd).symm.trans hrb) (nu_go hnq f_41 (by omega) (by omega)) (by omega) _ _ _ V (lv_sub hl [0] rfl)
                    · have V : gW D T A s [(o, .inr (8, [.int w0, .ref g1, .ref g2, .ref g3, .ref g4, .int (nI tp), .int (nI aq), .int (nI bq), .int (nI sz), .int w9, .int nq, .int (nI wr), .int wa, .int w13, .int w14, .ref g15, .int w16, .ref g17, .int w18, .int w19, .ref g20, .int w21, .ref g22, .ref g23, .ref g24, .int w25, .int w26, .int w27, .ref g28, .ref g29, .int w30, .ref g31, .ref g32, .ref g33])), (g3, .inl (T 0, 900, .inl ft))] H locs := V _ [] rfl rfl rfl (by decide +kernel) rfl
                      show W p l e _ s m args below meth c H locs _ _ _ (F0 m 157 ls [.int (nI 0)])
                      have hgdn : ¬ dgB (ft bq) = true := f_31 ▸ f_36
                      refine lv_if_eq (tgt := 209) hx hb dX8_next_157 (by decide) (fun _ => ?_) (fun c => absurd (show (nI 0) = 0 by decide +kernel) c)
                      refine lv_aload_n hx hb dX8_next_209 rfl (lv_at hl 0 rfl) ?_
                      refine lv_aload_n hx hb dX8_next_210 rfl (lv_at hl 0 rfl) ?_
                      refine g_get hC V (ci := 8) uwX8 0 rfl rfl 7 (by decide) w_919 rfl rfl dX8_next_211 ?_
                      refine lv_aload_n hx hb dX8_next_214 rfl (lv_at hl 0 rfl) ?_
                      refine g_get hC V (ci := 8) uwX8 0 rfl rfl 6 (by decide) w_918 rfl rfl dX8_next_215 ?_
                      refine lv_isub hx hb dX8_next_218 ?_
                      refine g_vi (y := (nI (bq - aq))) (nI_sub (by omega)) ?_
                      refine lv_iconst (v := (nI 3)) hx hb dX8_next_219 (by decide +kernel) ?_
                      refine lv_icmp_le (tgt := 228) hx hb dX8_next_220 (by decide) (fun c_42 => ?_) (fun c_42 => ?_)
                      · skip
                        have c_42 := b_le (by omega) (by omega) c_42
                        refine lv_bipush (v := (nI 9)) hx hb dX8_next_228 (by decide +kernel) ?_
                        refine g_put hC V (ci := 8) uwX8 tyX8 tyX8_ok nmX8 0 rfl rfl 9 (by decide) w_921 rfl rfl rfl rfl (Nat.le_of_ble_eq_true rfl) (ws' := [(o, .inr (8, [.int w0, .ref g1, .ref g2, .ref g3, .ref g4, .int (nI tp), .int (nI aq), .int (nI bq), .int (nI sz), .int (nI 9), .int nq, .int (nI wr), .int wa, .int w13, .int w14, .ref g15, .int w16, .ref g17, .int w18, .int w19, .ref g20, .int w21, .ref g22, .ref g23, .ref g24, .int w25, .int w26, .int w27, .ref g28, .ref g29, .int w30, .ref g31, .ref g32, .ref g33])), (g3, .inl (T 0, 900, .inl ft))]) rfl dX8_next_230 (fun H locs V => ?_)
                        refine lv_goto (tgt := 270) hx hb dX8_next_233 (by decide) ?_
                        exact g_vret (Qr := (q_m_next_f T o w0 g1 g2 g3 g4 tp w6 be sz w9 nu wr wa w13 w14 g15 w16 g17 w18 w19 g20 w21 g22 g23 g24 w25 w26 w27 g28 g29 w30 g31 g32 g33 ft)) hC V ⟨(Nat.le_of_ble_eq_true rfl), (Nat.le_of_ble_eq_true rfl)⟩ ⟨(aq, bq, 9, nq, wr, wa), rfl, rfl, (nx_eq (p := (0, be, 0, nu, wr, wa)) (a := aq) haq2 (Eq.symm (Eq.trans (tkB_d (by omega) hsmn hdg) (Eq.symm (by first | exact rn_st hrb (rn_no hgdn) | exact rn_st hrb (rn_end (by omega)))))) (tkK_d9 (by omega) hsmn hdg (by omega)).symm (hnq.trans (tkN_d (by omega) hsmn hdg).symm) rfl rfl)⟩ dX8_next_270
                      · skip
                        have c_42 := b_nle (by omega) (by omega) c_42
                        refine lv_bipush (v := (nI 12)) hx hb dX8_next_223 (by decide +kernel) ?_
                        refine lv_goto (tgt := 230) hx hb dX8_next_225 (by decide) ?_
                        refine g_put hC V (ci := 8) uwX8 tyX8 tyX8_ok nmX8 0 rfl rfl 9 (by decide) w_921 rfl rfl rfl rfl (Nat.le_of_ble_eq_true rfl) (ws' := [(o, .inr (8, [.int w0, .ref g1, .ref g2, .ref g3, .ref g4, .int (nI tp), .int (nI aq), .int (nI bq), .int (nI sz), .int (nI 12), .int nq, .int (nI wr), .int wa, .int w13, .int w14, .ref g15, .int w16, .ref g17, .int w18, .int w19, .ref g20, .int w21, .ref g22, .ref g23, .ref g24, .int w25, .int w26, .int w27, .ref g28, .ref g29, .int w30, .ref g31, .ref g32, .ref g33])), (g3, .inl (T 0, 900, .inl ft))]) rfl dX8_next_230 (fun H locs V => ?_)
                        refine lv_goto (tgt := 270) hx hb dX8_next_233 (by decide) ?_
                        exact g_vret (Qr := (q_m_next_f T o w0 g1 g2 g3 g4 tp w6 be sz w9 nu wr wa w13 w14 g15 w16 g17 w18 w19 g20 w21 g22 g23 g24 w25 w26 w27 g28 g29 w30 g31 g32 g33 ft)) hC V ⟨(Nat.le_of_ble_eq_true rfl), (Nat.le_of_ble_eq_true rfl)⟩ ⟨(aq, bq, 12, nq, wr, wa), rfl, rfl, (nx_eq (p := (0, be, 0, nu, wr, wa)) (a := aq) haq2 (Eq.symm (Eq.trans (tkB_d (by omega) hsmn hdg) (Eq.symm (by first | exact rn_st hrb (rn_no hgdn) | exact rn_st hrb (rn_end (by omega)))))) (tkK_d12 (by omega) hsmn hdg (by omega)).symm (hnq.trans (tkN_d (by omega) hsmn hdg).symm) rfl rfl)⟩ dX8_next_270
              exact L_27 _ aq (nI 0) (by omega) rfl (by rw [Nat.sub_self]; rfl) (Nat.lt_succ_self _) _ _ _ V (lv_sub hl [0] rfl)
            · have V : gW D T A s [(o, .inr (8, [.int w0, .ref g1, .ref g2, .ref g3, .ref g4, .int (nI tp), .int (nI aq), .int (nI aq), .int (nI sz), .int w9, .int nu, .int (nI wr), .int wa, .int w13, .int w14, .ref g15, .int w16, .ref g17, .int w18, .int w19, .ref g20, .int w21, .ref g22, .ref g23, .ref g24, .int w25, .int w26, .int w27, .ref g28, .ref g29, .int w30, .ref g31, .ref g32, .ref g33])), (g3, .inl (T 0, 900, .inl ft))] H locs := V _ [] rfl rfl rfl (by decide +kernel) rfl
              show W p l e _ s m args below meth c H locs _ _ _ (F0 m 138 ls [.int (nI 0)])
              have hdgn : ¬ dgB (ft aq) = true := f_24 ▸ f_26
              refine lv_if_eq (tgt := 236) hx hb dX8_next_138 (by decide) (fun _ => ?_) (fun c => absurd (show (nI 0) = 0 by decide +kernel) c)
              refine lv_aload_n hx hb dX8_next_236 rfl (lv_at hl 0 rfl) ?_
              refine lv_dup hx hb dX8_next_237 rfl ?_
              refine g_get hC V (ci := 8) uwX8 0 rfl rfl 7 (by decide) w_919 rfl rfl dX8_next_238 ?_
              refine lv_iconst (v := (nI 1)) hx hb dX8_next_241 (by decide +kernel) ?_
              refine lv_iadd hx hb dX8_next_242 ?_
              refine g_vi (y := (nI (aq + 1))) (nI_add _ _) ?_
              refine g_put hC V (ci := 8) uwX8 tyX8 tyX8_ok nmX8 0 rfl rfl 7 (by decide) w_919 rfl rfl rfl rfl (Nat.le_of_ble_eq_true rfl) (ws' := [(o, .inr (8, [.int w0, .ref g1, .ref g2, .ref g3, .ref g4, .int (nI tp), .int (nI aq), .int (nI (aq + 1)), .int (nI sz), .int w9, .int nu, .int (nI wr), .int wa, .int w13, .int w14, .ref g15, .int w16, .ref g17, .int w18, .int w19, .ref g20, .int w21, .ref g22, .ref g23, .ref g24, .int w25, .int w26, .int w27, .ref g28, .ref g29, .int w30, .ref g31, .ref g32, .ref g33])), (g3, .inl (T 0, 900, .inl ft))]) rfl dX8_next_243 (fun H locs V => ?_)
              refine lv_aload_n hx hb dX8_next_246 rfl (lv_at hl 0 rfl) ?_
              refine lv_aload_n hx hb dX8_next_247 rfl (lv_at hl 0 rfl) ?_
              refine lv_aload_n hx hb dX8_next_248 rfl (lv_at hl 0 rfl) ?_
              refine g_get hC V (ci := 8) uwX8 0 rfl rfl 6 (by decide) w_918 rfl rfl dX8_next_249 ?_
              refine g_callV (wr := []) (nA := 1) hC V hl.1 (m_see l D T o aq w0 g1 g2 g3 g4 tp (nI aq) (nI (aq + 1)) sz w9 nu (nI wr) wa w13 w14 g15 w16 g17 w18 w19 g20 w21 g22 g23 g24 w25 w26 w27 g28 g29 w30 g31 g32 g33 ft (by first | assumption | omega) (by first | assumption | omega)) w_1030 w_1032 w_s37 w_9 w_1033 (by decide +kernel) rfl ⟨(Nat.le_of_ble_eq_true rfl), (Nat.le_of_ble_eq_true rfl)⟩ 0 (ci := 8) rfl rfl [0, 1] [] rfl rfl rfl rfl (by decide) (Nat.le_of_ble_eq_true rfl) dX8_next_252 ⟨(Nat.le_of_ble_eq_true rfl), (Nat.le_of_ble_eq_true rfl)⟩ rfl (fun r w1 H locs hQ V => ?_)
              rcases hQ with ⟨rfl, rfl, f_43⟩ | ⟨z_44, rfl, rfl, f_45, f_46⟩
              · have V : gW D T A s [(o, .inr (8, [.int w0, .ref g1, .ref g2, .ref g3, .ref g4, .int (nI tp), .int (nI aq), .int (nI (aq + 1)), .int (nI sz), .int w9, .int nu, .int (nI wr), .int wa, .int w13, .int w14, .ref g15, .int w16, .ref g17, .int w18, .int w19, .ref g20, .int w21, .ref g22, .ref g23, .ref g24, .int w25, .int w26, .int w27, .ref g28, .ref g29, .int w30, .ref g31, .ref g32, .ref g33])), (g3, .inl (T 0, 900, .inl ft))] H locs := V
                show W p l e _ s m args below meth c H locs _ _ _ (F0 m 255 ls [.int (-1), .ref o])
                exact (by omega : False).elim
              · have V : gW D T A s [(o, .inr (8, [.int w0, .ref g1, .ref g2, .ref g3, .ref g4, .int (nI tp), .int (nI aq), .int (nI (aq + 1)), .int (nI sz), .int w9, .int nu, .int (nI wr), .int wa, .int w13, .int w14, .ref g15, .int w16, .ref g17, .int w18, .int w19, .ref g20, .int w21, .ref g22, .ref g23, .ref g24, .int w25, .int w26, .int w27, .ref g28, .ref g29, .int w30, .ref g31, .ref g32, .ref g33])), (g3, .inl (T 0, 900, .inl ft))] H locs := V
                show W p l e _ s m args below meth c H locs _ _ _ (F0 m 255 ls [.int z_44, .ref o])
                refine lv_bipush (v := (nI 59)) hx hb dX8_next_255 (by decide +kernel) ?_
                refine lv_icmp_ne (tgt := 265) hx hb dX8_next_257 (by decide) (fun c_47 => ?_) (fun c_47 => ?_)
                · skip
                  refine lv_bipush (v := (nI 12)) hx hb dX8_next_265 (by decide +kernel) ?_
                  refine g_put hC V (ci := 8) uwX8 tyX8 tyX8_ok nmX8 0 rfl rfl 9 (by decide) w_921 rfl rfl rfl rfl (Nat.le_of_ble_eq_true rfl) (ws' := [(o, .inr (8, [.int w0, .ref g1, .ref g2, .ref g3, .ref g4, .int (nI tp), .int (nI aq), .int (nI (aq + 1)), .int (nI sz), .int (nI 12), .int nu, .int (nI wr), .int wa, .int w13, .int w14, .ref g15, .int w16, .ref g17, .int w18, .int w19, .ref g20, .int w21, .ref g22, .ref g23, .ref g24, .int w25, .int w26, .int w27, .ref g28, .ref g29, .int w30, .ref g31, .ref g32, .ref g33])), (g3, .inl (T 0, 900, .inl ft))]) rfl dX8_next_267 (fun H locs V => ?_)
                  exact g_vret (Qr := (q_m_next_f T o w0 g1 g2 g3 g4 tp w6 be sz w9 nu wr wa w13 w14 g15 w16 g17 w18 w19 g20 w21 g22 g23 g24 w25 w26 w27 g28 g29 w30 g31 g32 g33 ft)) hC V ⟨(Nat.le_of_ble_eq_true rfl), (Nat.le_of_ble_eq_true rfl)⟩ ⟨(aq, aq + 1, 12, nu, wr, wa), rfl, rfl, (nx_eq (p := (0, be, 0, nu, wr, wa)) (a := aq) haq2 (tkB_s (by omega) hsmn hdgn).symm (tkK_12 (by omega) hsmn hdgn (fun e => c_47 (f_46.trans e))).symm (tkN_s hdgn).symm rfl rfl)⟩ dX8_next_270
                · skip
                  refine lv_bipush (v := (nI 10)) hx hb dX8_next_260 (by decide +kernel) ?_
                  refine lv_goto (tgt := 267) hx hb dX8_next_262 (by decide) ?_
                  refine g_put hC V (ci := 8) uwX8 tyX8 tyX8_ok nmX8 0 rfl rfl 9 (by decide) w_921 rfl rfl rfl rfl (Nat.le_of_ble_eq_true rfl) (ws' := [(o, .inr (8, [.int w0, .ref g1, .ref g2, .ref g3, .ref g4, .int (nI tp), .int (nI aq), .int (nI (aq + 1)), .int (nI sz), .int (nI 10), .int nu, .int (nI wr), .int wa, .int w13, .int w14, .ref g15, .int w16, .ref g17, .int w18, .int w19, .ref g20, .int w21, .ref g22, .ref g23, .ref g24, .int w25, .int w26, .int w27, .ref g28, .ref g29, .int w30, .ref g31, .ref g32, .ref g33])), (g3, .inl (T 0, 900, .inl ft))]) rfl dX8_next_267 (fun H locs V => ?_)
                  exact g_vret (Qr := (q_m_next_f T o w0 g1 g2 g3 g4 tp w6 be sz w9 nu wr wa w13 w14 g15 w16 g17 w18 w19 g20 w21 g22 g23 g24 w25 w26 w27 g28 g29 w30 g31 g32 g33 ft)) hC V ⟨(Nat.le_of_ble_eq_true rfl), (Nat.le_of_ble_eq_true rfl)⟩ ⟨(aq, aq + 1, 10, nu, wr, wa), rfl, rfl, (nx_eq (p := (0, be, 0, nu, wr, wa)) (a := aq) haq2 (tkB_s (by omega) hsmn hdgn).symm (tkK_10 (by omega) hsmn hdgn (f_46.symm.trans c_47)).symm (tkN_s hdgn).symm rfl rfl)⟩ dX8_next_270
    · skip
      have c_1 := b_nlt (by omega) (by omega) c_1
      refine lv_aload_n hx hb dX8_next_66 rfl (lv_at hl 0 rfl) ?_
      refine lv_bipush (v := (nI 11)) hx hb dX8_next_67 (by decide +kernel) ?_
      refine g_put hC V (ci := 8) uwX8 tyX8 tyX8_ok nmX8 0 rfl rfl 9 (by decide) w_921 rfl rfl rfl rfl (Nat.le_of_ble_eq_true rfl) (ws' := [(o, .inr (8, [.int w0, .ref g1, .ref g2, .ref g3, .ref g4, .int (nI tp), .int (nI aq), .int (nI aq), .int (nI sz), .int (nI 11), .int nu, .int (nI wr), .int wa, .int w13, .int w14, .ref g15, .int w16, .ref g17, .int w18, .int w19, .ref g20, .int w21, .ref g22, .ref g23, .ref g24, .int w25, .int w26, .int w27, .ref g28, .ref g29, .int w30, .ref g31, .ref g32, .ref g33])), (g3, .inl (T 0, 900, .inl ft))]) rfl dX8_next_69 (fun H locs V => ?_)
      refine lv_goto (tgt := 270) hx hb dX8_next_72 (by decide) ?_
      exact g_vret (Qr := (q_m_next_f T o w0 g1 g2 g3 g4 tp w6 be sz w9 nu wr wa w13 w14 g15 w16 g17 w18 w19 g20 w21 g22 g23 g24 w25 w26 w27 g28 g29 w30 g31 g32 g33 ft)) hC V ⟨(Nat.le_of_ble_eq_true rfl), (Nat.le_of_ble_eq_true rfl)⟩ ⟨(aq, aq, 11, nu, wr, wa), rfl, rfl, (nx_eq (p := (0, be, 0, nu, wr, wa)) (a := aq) haq2 (tkB_e (by omega)).symm (tkK_e (by omega)).symm (tkN_e (by omega)).symm rfl rfl)⟩ dX8_next_270
  have L_48 : ∀ (fu : Nat) (aq : Nat), (be ≤ aq ∧ aq ≤ sz) → rn blkB ft sz aq = rn blkB ft sz be → sz - aq < fu → ∀ (H : Heap) (locs : List Loc) (ls : Array Slot), gW D T A s [(o, .inr (8, [.int w0, .ref g1, .ref g2, .ref g3, .ref g4, .int (nI tp), .int (nI aq), .int (nI be), .int (nI sz), .int w9, .int nu, .int (nI wr), .int wa, .int w13, .int w14, .ref g15, .int w16, .ref g17, .int w18, .int w19, .ref g20, .int w21, .ref g22, .ref g23, .ref g24, .int w25, .int w26, .int w27, .ref g28, .ref g29, .int w30, .ref g31, .ref g32, .ref g33])), (g3, .inl (T 0, 900, .inl ft))] H locs → lv_has ls 1 [(0, .ref o)] → W p l e (rmD 5 0 0) s m args below meth c H locs 0 0 (MQ below (gQ D A (q_m_next_f T o w0 g1 g2 g3 g4 tp w6 be sz w9 nu wr wa w13 w14 g15 w16 g17 w18 w19 g20 w21 g22 g23 g24 w25 w26 w27 g28 g29 w30 g31 g32 g33 ft)) args s 0 0 A) (F0 m 8 ls []) := by
    intro fu_8
    induction fu_8 with
    | zero => intro aq haq hrn hmu; exact absurd hmu (Nat.not_lt_zero _)
    | succ fu_8 ih_8 =>
      intro aq haq hrn hmu_8 H locs ls V hl
      refine lv_aload_n hx hb dX8_next_8 rfl (lv_at hl 0 rfl) ?_
      refine lv_aload_n hx hb dX8_next_9 rfl (lv_at hl 0 rfl) ?_
      refine g_get hC V (ci := 8) uwX8 0 rfl rfl 6 (by decide) w_918 rfl rfl dX8_next_10 ?_
      refine g_callV (wr := []) (nA := 1) hC V hl.1 (m_see l D T o aq w0 g1 g2 g3 g4 tp (nI aq) (nI be) sz w9 nu (nI wr) wa w13 w14 g15 w16 g17 w18 w19 g20 w21 g22 g23 g24 w25 w26 w27 g28 g29 w30 g31 g32 g33 ft (by first | assumption | omega) (by first | assumption | omega)) w_1030 w_1032 w_s37 w_9 w_1033 (by decide +kernel) rfl ⟨(Nat.le_of_ble_eq_true rfl), (Nat.le_of_ble_eq_true rfl)⟩ 0 (ci := 8) rfl rfl [0, 1] [] rfl rfl rfl rfl (by decide) (Nat.le_of_ble_eq_true rfl) dX8_next_13 ⟨(Nat.le_of_ble_eq_true rfl), (Nat.le_of_ble_eq_true rfl)⟩ rfl (fun r w1 H locs hQ V => ?_)
      rcases hQ with ⟨rfl, rfl, f_49⟩ | ⟨z_50, rfl, rfl, f_51, f_52⟩
      · have V : gW D T A s [(o, .inr (8, [.int w0, .ref g1, .ref g2, .ref g3, .ref g4, .int (nI tp), .int (nI aq), .int (nI be), .int (nI sz), .int w9, .int nu, .int (nI wr), .int wa, .int w13, .int w14, .ref g15, .int w16, .ref g17, .int w18, .int w19, .ref g20, .int w21, .ref g22, .ref g23, .ref g24, .int w25, .int w26, .int w27, .ref g28, .ref g29, .int w30, .ref g31, .ref g32, .ref g33])), (g3, .inl (T 0, 900, .inl ft))] H locs := V
        show W p l e _ s m args below meth c H locs _ _ _ (F0 m 16 ls [.int (-1)])
        refine lv_bipush (v := (nI 10)) hx hb dX8_next_16 (by decide +kernel) ?_
        refine lv_icmp_eq (tgt := 34) hx hb dX8_next_18 (by decide) (fun c => absurd (show (-1 : Int32) = (nI 10) from c) (by decide +kernel)) (fun _ => ?_)
        refine lv_aload_n hx hb dX8_next_21 rfl (lv_at hl 0 rfl) ?_
        refine lv_aload_n hx hb dX8_next_22 rfl (lv_at hl 0 rfl) ?_
        refine g_get hC V (ci := 8) uwX8 0 rfl rfl 6 (by decide) w_918 rfl rfl dX8_next_23 ?_
        refine g_callV (wr := []) (nA := 1) hC V hl.1 (m_see l D T o aq w0 g1 g2 g3 g4 tp (nI aq) (nI be) sz w9 nu (nI wr) wa w13 w14 g15 w16 g17 w18 w19 g20 w21 g22 g23 g24 w25 w26 w27 g28 g29 w30 g31 g32 g33 ft (by first | assumption | omega) (by first | assumption | omega)) w_1030 w_1032 w_s37 w_9 w_1033 (by decide +kernel) rfl ⟨(Nat.le_of_ble_eq_true rfl), (Nat.le_of_ble_eq_true rfl)⟩ 0 (ci := 8) rfl rfl [0, 1] [] rfl rfl rfl rfl (by decide) (Nat.le_of_ble_eq_true rfl) dX8_next_26 ⟨(Nat.le_of_ble_eq_true rfl), (Nat.le_of_ble_eq_true rfl)⟩ rfl (fun r w1 H locs hQ V => ?_)
        rcases hQ with ⟨rfl, rfl, f_53⟩ | ⟨z_54, rfl, rfl, f_55, f_56⟩
        · have V : gW D T A s [(o, .inr (8, [.int w0, .ref g1, .ref g2, .ref g3, .ref g4, .int (nI tp), .int (nI aq), .int (nI be), .int (nI sz), .int w9, .int nu, .int (nI wr), .int wa, .int w13, .int w14, .ref g15, .int w16, .ref g17, .int w18, .int w19, .ref g20, .int w21, .ref g22, .ref g23, .ref g24, .int w25, .int w26, .int w27, .ref g28, .ref g29, .int w30, .ref g31, .ref g32, .ref g33])), (g3, .inl (T 0, 900, .inl ft))] H locs := V
          show W p l e _ s m args below meth c H locs _ _ _ (F0 m 29 ls [.int (-1)])
          refine lv_bipush (v := (nI 32)) hx hb dX8_next_29 (by decide +kernel) ?_
          refine lv_icmp_ne (tgt := 47) hx hb dX8_next_31 (by decide) (fun _ => ?_) (fun c => absurd (show (-1 : Int32) = (nI 32) from c) (by decide +kernel))
          exact J_47 aq (by omega) (by first | exact rn_st hrn hst | exact rn_st hrn (rn_end (by omega))) _ _ _ V (lv_sub hl [0] rfl)
        · have V : gW D T A s [(o, .inr (8, [.int w0, .ref g1, .ref g2, .ref g3, .ref g4, .int (nI tp), .int (nI aq), .int (nI be), .int (nI sz), .int w9, .int nu, .int (nI wr), .int wa, .int w13, .int w14, .ref g15, .int w16, .ref g17, .int w18, .int w19, .ref g20, .int w21, .ref g22, .ref g23, .ref g24, .int w25, .int w26, .int w27, .ref g28, .ref g29, .int w30, .ref g31, .ref g32, .ref g33])), (g3, .inl (T 0, 900, .inl ft))] H locs := V
          show W p l e _ s m args below meth c H locs _ _ _ (F0 m 29 ls [.int z_54])
          refine lv_bipush (v := (nI 32)) hx hb dX8_next_29 (by decide +kernel) ?_
          refine lv_icmp_ne (tgt := 47) hx hb dX8_next_31 (by decide) (fun c_57 => ?_) (fun c_57 => ?_)
          · skip
            exact J_47 aq (by omega) (by first | exact rn_st hrn hst | exact rn_st hrn (rn_end (by omega))) _ _ _ V (lv_sub hl [0] rfl)
          · skip
            have hgo := blk_2 f_56 c_57
            refine lv_aload_n hx hb dX8_next_34 rfl (lv_at hl 0 rfl) ?_
            refine lv_dup hx hb dX8_next_35 rfl ?_
            refine g_get hC V (ci := 8) uwX8 0 rfl rfl 6 (by decide) w_918 rfl rfl dX8_next_36 ?_
            refine lv_iconst (v := (nI 1)) hx hb dX8_next_39 (by decide +kernel) ?_
            refine lv_iadd hx hb dX8_next_40 ?_
            refine g_vi (y := (nI (aq + 1))) (nI_add _ _) ?_
            refine g_put hC V (ci := 8) uwX8 tyX8 tyX8_ok nmX8 0 rfl rfl 6 (by decide) w_918 rfl rfl rfl rfl (Nat.le_of_ble_eq_true rfl) (ws' := [(o, .inr (8, [.int w0, .ref g1, .ref g2, .ref g3, .ref g4, .int (nI tp), .int (nI (aq + 1)), .int (nI be), .int (nI sz), .int w9, .int nu, .int (nI wr), .int wa, .int w13, .int w14, .ref g15, .int w16, .ref g17, .int w18, .int w19, .ref g20, .int w21, .ref g22, .ref g23, .ref g24, .int w25, .int w26, .int w27, .ref g28, .ref g29, .int w30, .ref g31, .ref g32, .ref g33])), (g3, .inl (T 0, 900, .inl ft))]) rfl dX8_next_41 (fun H locs V => ?_)
            refine lv_goto (tgt := 8) hx hb dX8_next_44 (by decide) ?_
            exact ih_8 (aq + 1) (by omega) ((rn_go (by omega) hgo).symm.trans hrn) (by omega) _ _ _ V (lv_sub hl [0] rfl)
      · have V : gW D T A s [(o, .inr (8, [.int w0, .ref g1, .ref g2, .ref g3, .ref g4, .int (nI tp), .int (nI aq), .int (nI be), .int (nI sz), .int w9, .int nu, .int (nI wr), .int wa, .int w13, .int w14, .ref g15, .int w16, .ref g17, .int w18, .int w19, .ref g20, .int w21, .ref g22, .ref g23, .ref g24, .int w25, .int w26, .int w27, .ref g28, .ref g29, .int w30, .ref g31, .ref g32, .ref g33])), (g3, .inl (T 0, 900, .inl ft))] H locs := V
        show W p l e _ s m args below meth c H locs _ _ _ (F0 m 16 ls [.int z_50])
        refine lv_bipush (v := (nI 10)) hx hb dX8_next_16 (by decide +kernel) ?_
        refine lv_icmp_eq (tgt := 34) hx hb dX8_next_18 (by decide) (fun c_58 => ?_) (fun c_58 => ?_)
        · skip
          have hgo := blk_1 f_52 c_58
          refine lv_aload_n hx hb dX8_next_34 rfl (lv_at hl 0 rfl) ?_
          refine lv_dup hx hb dX8_next_35 rfl ?_
          refine g_get hC V (ci := 8) uwX8 0 rfl rfl 6 (by decide) w_918 rfl rfl dX8_next_36 ?_
          refine lv_iconst (v := (nI 1)) hx hb dX8_next_39 (by decide +kernel) ?_
          refine lv_iadd hx hb dX8_next_40 ?_
          refine g_vi (y := (nI (aq + 1))) (nI_add _ _) ?_
          refine g_put hC V (ci := 8) uwX8 tyX8 tyX8_ok nmX8 0 rfl rfl 6 (by decide) w_918 rfl rfl rfl rfl (Nat.le_of_ble_eq_true rfl) (ws' := [(o, .inr (8, [.int w0, .ref g1, .ref g2, .ref g3, .ref g4, .int (nI tp), .int (nI (aq + 1)), .int (nI be), .int (nI sz), .int w9, .int nu, .int (nI wr), .int wa, .int w13, .int w14, .ref g15, .int w16, .ref g17, .int w18, .int w19, .ref g20, .int w21, .ref g22, .ref g23, .ref g24, .int w25, .int w26, .int w27, .ref g28, .ref g29, .int w30, .ref g31, .ref g32, .ref g33])), (g3, .inl (T 0, 900, .inl ft))]) rfl dX8_next_41 (fun H locs V => ?_)
          refine lv_goto (tgt := 8) hx hb dX8_next_44 (by decide) ?_
          exact ih_8 (aq + 1) (by omega) ((rn_go (by omega) hgo).symm.trans hrn) (by omega) _ _ _ V (lv_sub hl [0] rfl)
        · skip
          refine lv_aload_n hx hb dX8_next_21 rfl (lv_at hl 0 rfl) ?_
          refine lv_aload_n hx hb dX8_next_22 rfl (lv_at hl 0 rfl) ?_
          refine g_get hC V (ci := 8) uwX8 0 rfl rfl 6 (by decide) w_918 rfl rfl dX8_next_23 ?_
          refine g_callV (wr := []) (nA := 1) hC V hl.1 (m_see l D T o aq w0 g1 g2 g3 g4 tp (nI aq) (nI be) sz w9 nu (nI wr) wa w13 w14 g15 w16 g17 w18 w19 g20 w21 g22 g23 g24 w25 w26 w27 g28 g29 w30 g31 g32 g33 ft (by first | assumption | omega) (by first | assumption | omega)) w_1030 w_1032 w_s37 w_9 w_1033 (by decide +kernel) rfl ⟨(Nat.le_of_ble_eq_true rfl), (Nat.le_of_ble_eq_true rfl)⟩ 0 (ci := 8) rfl rfl [0, 1] [] rfl rfl rfl rfl (by decide) (Nat.le_of_ble_eq_true rfl) dX8_next_26 ⟨(Nat.le_of_ble_eq_true rfl), (Nat.le_of_ble_eq_true rfl)⟩ rfl (fun r w1 H locs hQ V => ?_)
          rcases hQ with ⟨rfl, rfl, f_59⟩ | ⟨z_60, rfl, rfl, f_61, f_62⟩
          · have V : gW D T A s [(o, .inr (8, [.int w0, .ref g1, .ref g2, .ref g3, .ref g4, .int (nI tp), .int (nI aq), .int (nI be), .int (nI sz), .int w9, .int nu, .int (nI wr), .int wa, .int w13, .int w14, .ref g15, .int w16, .ref g17, .int w18, .int w19, .ref g20, .int w21, .ref g22, .ref g23, .ref g24, .int w25, .int w26, .int w27, .ref g28, .ref g29, .int w30, .ref g31, .ref g32, .ref g33])), (g3, .inl (T 0, 900, .inl ft))] H locs := V
            show W p l e _ s m args below meth c H locs _ _ _ (F0 m 29 ls [.int (-1)])
            refine lv_bipush (v := (nI 32)) hx hb dX8_next_29 (by decide +kernel) ?_
            refine lv_icmp_ne (tgt := 47) hx hb dX8_next_31 (by decide) (fun _ => ?_) (fun c => absurd (show (-1 : Int32) = (nI 32) from c) (by decide +kernel))
            exact J_47 aq (by omega) (by first | exact rn_st hrn hst | exact rn_st hrn (rn_end (by omega))) _ _ _ V (lv_sub hl [0] rfl)
          · have V : gW D T A s [(o, .inr (8, [.int w0, .ref g1, .ref g2, .ref g3, .ref g4, .int (nI tp), .int (nI aq), .int (nI be), .int (nI sz), .int w9, .int nu, .int (nI wr), .int wa, .int w13, .int w14, .ref g15, .int w16, .ref g17, .int w18, .int w19, .ref g20, .int w21, .ref g22, .ref g23, .ref g24, .int w25, .int w26, .int w27, .ref g28, .ref g29, .int w30, .ref g31, .ref g32, .ref g33])), (g3, .inl (T 0, 900, .inl ft))] H locs := V
            show W p l e _ s m args below meth c H locs _ _ _ (F0 m 29 ls [.int z_60])
            refine lv_bipush (v := (nI 32)) hx hb dX8_next_29 (by decide +kernel) ?_
            refine lv_icmp_ne (tgt := 47) hx hb dX8_next_31 (by decide) (fun c_63 => ?_) (fun c_63 => ?_)
            · skip
              have hst := rn_no (sz := sz) (blk_no f_52 f_62 c_58 c_63)
              exact J_47 aq (by omega) (by first | exact rn_st hrn hst | exact rn_st hrn (rn_end (by omega))) _ _ _ V (lv_sub hl [0] rfl)
            · skip
              have hgo := blk_2 f_62 c_63
              refine lv_aload_n hx hb dX8_next_34 rfl (lv_at hl 0 rfl) ?_
              refine lv_dup hx hb dX8_next_35 rfl ?_
              refine g_get hC V (ci := 8) uwX8 0 rfl rfl 6 (by decide) w_918 rfl rfl dX8_next_36 ?_
              refine lv_iconst (v := (nI 1)) hx hb dX8_next_39 (by decide +kernel) ?_
              refine lv_iadd hx hb dX8_next_40 ?_
              refine g_vi (y := (nI (aq + 1))) (nI_add _ _) ?_
              refine g_put hC V (ci := 8) uwX8 tyX8 tyX8_ok nmX8 0 rfl rfl 6 (by decide) w_918 rfl rfl rfl rfl (Nat.le_of_ble_eq_true rfl) (ws' := [(o, .inr (8, [.int w0, .ref g1, .ref g2, .ref g3, .ref g4, .int (nI tp), .int (nI (aq + 1)), .int (nI be), .int (nI sz), .int w9, .int nu, .int (nI wr), .int wa, .int w13, .int w14, .ref g15, .int w16, .ref g17, .int w18, .int w19, .ref g20, .int w21, .ref g22, .ref g23, .ref g24, .int w25, .int w26, .int w27, .ref g28, .ref g29, .int w30, .ref g31, .ref g32, .ref g33])), (g3, .inl (T 0, 900, .inl ft))]) rfl dX8_next_41 (fun H locs V => ?_)
              refine lv_goto (tgt := 8) hx hb dX8_next_44 (by decide) ?_
              exact ih_8 (aq + 1) (by omega) ((rn_go (by omega) hgo).symm.trans hrn) (by omega) _ _ _ V (lv_sub hl [0] rfl)
  exact L_48 _ be (by omega) rfl (Nat.lt_succ_self _) _ _ _ V (lv_sub hl [0] rfl)

def q_m_fails_f (T : Nat → ClassId) (ps : PS) (sz : Nat) (o : Nat) (f : Nat) (w0 : Int32) (g1 : Nat) (g2 : Nat) (g3 : Nat) (g4 : Nat) (tp : Nat) (w13 : Int32) (w14 : Int32) (g15 : Nat) (w16 : Int32) (g17 : Nat) (w18 : Int32) (w19 : Int32) (g20 : Nat) (w21 : Int32) (g22 : Nat) (g23 : Nat) (g24 : Nat) (w25 : Int32) (w26 : Int32) (w27 : Int32) (g28 : Nat) (g29 : Nat) (w30 : Int32) (g31 : Nat) (g32 : Nat) (g33 : Nat) : Option Value → va_W → Prop := fun rr ww => (∃ (p2 : PS), rr = none ∧ ww = [(o, .inr (8, [.int w0, .ref g1, .ref g2, .ref g3, .ref g4, .int (nI tp), .int (nI p2.1), .int (nI p2.2.1), .int (nI sz), .int (nI p2.2.2.1), .int p2.2.2.2.1, .int (nI p2.2.2.2.2.1), .int p2.2.2.2.2.2, .int w13, .int w14, .ref g15, .int w16, .ref g17, .int w18, .int w19, .ref g20, .int w21, .ref g22, .ref g23, .ref g24, .int w25, .int w26, .int w27, .ref g28, .ref g29, .int w30, .ref g31, .ref g32, .ref g33]))] ∧ p2 = faS f ps)
set_option maxHeartbeats 4000000 in
set_option maxRecDepth 100000 in
theorem m_fails_f (l : Launch) (D : va_G) (T : Nat → ClassId) (ps : PS) (sz : Nat) (o : Nat) (f : Nat) (w0 : Int32) (g1 : Nat) (g2 : Nat) (g3 : Nat) (g4 : Nat) (tp : Nat) (w13 : Int32) (w14 : Int32) (g15 : Nat) (w16 : Int32) (g17 : Nat) (w18 : Int32) (w19 : Int32) (g20 : Nat) (w21 : Int32) (g22 : Nat) (g23 : Nat) (g24 : Nat) (w25 : Int32) (w26 : Int32) (w27 : Int32) (g28 : Nat) (g29 : Nat) (w30 : Int32) (g31 : Nat) (g32 : Nat) (g33 : Nat) (h_k : ps.2.2.1 ≤ 12) (h_w : ps.2.2.2.2.1 ≤ 4) : Ct l yX8_fails cX8_fails 2 none 0 0 0 D T [.ref o, .int (nI f)] [(o, .inr (8, [.int w0, .ref g1, .ref g2, .ref g3, .ref g4, .int (nI tp), .int (nI ps.1), .int (nI ps.2.1), .int (nI sz), .int (nI ps.2.2.1), .int ps.2.2.2.1, .int (nI ps.2.2.2.2.1), .int ps.2.2.2.2.2, .int w13, .int w14, .ref g15, .int w16, .ref g17, .int w18, .int w19, .ref g20, .int w21, .ref g22, .ref g23, .ref g24, .int w25, .int w26, .int w27, .ref g28, .ref g29, .int w30, .ref g31, .ref g32, .ref g33]))] (q_m_fails_f T ps sz o f w0 g1 g2 g3 g4 tp w13 w14 g15 w16 g17 w18 w19 g20 w21 g22 g23 g24 w25 w26 w27 g28 g29 w30 g31 g32 g33) := by
  refine Ct.of (cc := cX8_fails) (maxL := 2) (ret := none) (by decide) (Nat.le_of_ble_eq_true rfl) ?_
  intro p e s m args below meth c A ls hC hnm V hl
  obtain ⟨hx, hb, hr, hml, hown, hts, hlocks⟩ := id hC
  generalize hH : s.heap = H at V ⊢
  clear hH
  have hl : lv_has ls 2 [(0, .ref o), (1, .int (nI f))] := hl
  generalize hlo : ([] : List Loc) = locs at V ⊢
  clear hlo
  refine lv_aload_n hx hb dX8_fails_0 rfl (lv_at hl 0 rfl) ?_
  refine g_get hC V (ci := 8) uwX8 0 rfl rfl 11 (by decide) w_923 rfl rfl dX8_fails_1 ?_
  refine lv_if_eq (tgt := 8) hx hb dX8_fails_4 (by decide) (fun c_1 => ?_) (fun c_1 => ?_)
  · skip
    rw [show (0 : Int32) = nI 0 from rfl] at c_1
    have c_1 := b_eq (by omega) (by omega) c_1
    refine lv_aload_n hx hb dX8_fails_8 rfl (lv_at hl 0 rfl) ?_
    refine lv_aload_n hx hb dX8_fails_9 rfl (lv_at hl 0 rfl) ?_
    refine g_get hC V (ci := 8) uwX8 0 rfl rfl 9 (by decide) w_921 rfl rfl dX8_fails_10 ?_
    refine lv_bipush (v := (nI 12)) hx hb dX8_fails_13 (by decide +kernel) ?_
    refine lv_icmp_ne (tgt := 22) hx hb dX8_fails_15 (by decide) (fun c_2 => ?_) (fun c_2 => ?_)
    · skip
      have c_2 := b_ne (by omega) (by omega) c_2
      refine lv_iload_n hx hb dX8_fails_22 rfl (lv_at hl 1 rfl) ?_
      refine g_put hC V (ci := 8) uwX8 tyX8 tyX8_ok nmX8 0 rfl rfl 11 (by decide) w_923 rfl rfl rfl rfl (Nat.le_of_ble_eq_true rfl) (ws' := [(o, .inr (8, [.int w0, .ref g1, .ref g2, .ref g3, .ref g4, .int (nI tp), .int (nI ps.1), .int (nI ps.2.1), .int (nI sz), .int (nI ps.2.2.1), .int ps.2.2.2.1, .int (nI f), .int ps.2.2.2.2.2, .int w13, .int w14, .ref g15, .int w16, .ref g17, .int w18, .int w19, .ref g20, .int w21, .ref g22, .ref g23, .ref g24, .int w25, .int w26, .int w27, .ref g28, .ref g29, .int w30, .ref g31, .ref g32, .ref g33]))]) rfl dX8_fails_23 (fun H locs V => ?_)
      refine lv_aload_n hx hb dX8_fails_26 rfl (lv_at hl 0 rfl) ?_
      refine lv_aload_n hx hb dX8_fails_27 rfl (lv_at hl 0 rfl) ?_
      refine g_get hC V (ci := 8) uwX8 0 rfl rfl 6 (by decide) w_918 rfl rfl dX8_fails_28 ?_
      refine g_put hC V (ci := 8) uwX8 tyX8 tyX8_ok nmX8 0 rfl rfl 12 (by decide) w_924 rfl rfl rfl rfl (Nat.le_of_ble_eq_true rfl) (ws' := [(o, .inr (8, [.int w0, .ref g1, .ref g2, .ref g3, .ref g4, .int (nI tp), .int (nI ps.1), .int (nI ps.2.1), .int (nI sz), .int (nI ps.2.2.1), .int ps.2.2.2.1, .int (nI f), .int (nI ps.1), .int w13, .int w14, .ref g15, .int w16, .ref g17, .int w18, .int w19, .ref g20, .int w21, .ref g22, .ref g23, .ref g24, .int w25, .int w26, .int w27, .ref g28, .ref g29, .int w30, .ref g31, .ref g32, .ref g33]))]) rfl dX8_fails_31 (fun H locs V => ?_)
      exact g_vret (Qr := (q_m_fails_f T ps sz o f w0 g1 g2 g3 g4 tp w13 w14 g15 w16 g17 w18 w19 g20 w21 g22 g23 g24 w25 w26 w27 g28 g29 w30 g31 g32 g33)) hC V ⟨(Nat.le_of_ble_eq_true rfl), (Nat.le_of_ble_eq_true rfl)⟩ ⟨(ps.1, ps.2.1, ps.2.2.1, ps.2.2.2.1, f, nI ps.1), rfl, rfl, (fa_0 (by omega) (by omega)).symm⟩ dX8_fails_34
    · skip
      have c_2 := b_eq (by omega) (by omega) c_2
      refine lv_iconst (v := (nI 1)) hx hb dX8_fails_18 (by decide +kernel) ?_
      refine lv_goto (tgt := 23) hx hb dX8_fails_19 (by decide) ?_
      refine g_put hC V (ci := 8) uwX8 tyX8 tyX8_ok nmX8 0 rfl rfl 11 (by decide) w_923 rfl rfl rfl rfl (Nat.le_of_ble_eq_true rfl) (ws' := [(o, .inr (8, [.int w0, .ref g1, .ref g2, .ref g3, .ref g4, .int (nI tp), .int (nI ps.1), .int (nI ps.2.1), .int (nI sz), .int (nI ps.2.2.1), .int ps.2.2.2.1, .int (nI 1), .int ps.2.2.2.2.2, .int w13, .int w14, .ref g15, .int w16, .ref g17, .int w18, .int w19, .ref g20, .int w21, .ref g22, .ref g23, .ref g24, .int w25, .int w26, .int w27, .ref g28, .ref g29, .int w30, .ref g31, .ref g32, .ref g33]))]) rfl dX8_fails_23 (fun H locs V => ?_)
      refine lv_aload_n hx hb dX8_fails_26 rfl (lv_at hl 0 rfl) ?_
      refine lv_aload_n hx hb dX8_fails_27 rfl (lv_at hl 0 rfl) ?_
      refine g_get hC V (ci := 8) uwX8 0 rfl rfl 6 (by decide) w_918 rfl rfl dX8_fails_28 ?_
      refine g_put hC V (ci := 8) uwX8 tyX8 tyX8_ok nmX8 0 rfl rfl 12 (by decide) w_924 rfl rfl rfl rfl (Nat.le_of_ble_eq_true rfl) (ws' := [(o, .inr (8, [.int w0, .ref g1, .ref g2, .ref g3, .ref g4, .int (nI tp), .int (nI ps.1), .int (nI ps.2.1), .int (nI sz), .int (nI ps.2.2.1), .int ps.2.2.2.1, .int (nI 1), .int (nI ps.1), .int w13, .int w14, .ref g15, .int w16, .ref g17, .int w18, .int w19, .ref g20, .int w21, .ref g22, .ref g23, .ref g24, .int w25, .int w26, .int w27, .ref g28, .ref g29, .int w30, .ref g31, .ref g32, .ref g33]))]) rfl dX8_fails_31 (fun H locs V => ?_)
      exact g_vret (Qr := (q_m_fails_f T ps sz o f w0 g1 g2 g3 g4 tp w13 w14 g15 w16 g17 w18 w19 g20 w21 g22 g23 g24 w25 w26 w27 g28 g29 w30 g31 g32 g33)) hC V ⟨(Nat.le_of_ble_eq_true rfl), (Nat.le_of_ble_eq_true rfl)⟩ ⟨(ps.1, ps.2.1, ps.2.2.1, ps.2.2.2.1, 1, nI ps.1), rfl, rfl, (fa_12 (by omega) (by omega)).symm⟩ dX8_fails_34
  · skip
    rw [show (0 : Int32) = nI 0 from rfl] at c_1
    have c_1 := b_ne (by omega) (by omega) c_1
    exact g_vret (Qr := (q_m_fails_f T ps sz o f w0 g1 g2 g3 g4 tp w13 w14 g15 w16 g17 w18 w19 g20 w21 g22 g23 g24 w25 w26 w27 g28 g29 w30 g31 g32 g33)) hC V ⟨(Nat.le_of_ble_eq_true rfl), (Nat.le_of_ble_eq_true rfl)⟩ ⟨ps, rfl, rfl, (fa_n0 (by omega)).symm⟩ dX8_fails_7

def q_m_is_f (T : Nat → ClassId) (ps : PS) (sz : Nat) (o : Nat) (k : Nat) (w0 : Int32) (g1 : Nat) (g2 : Nat) (g3 : Nat) (g4 : Nat) (tp : Nat) (w13 : Int32) (w14 : Int32) (g15 : Nat) (w16 : Int32) (g17 : Nat) (w18 : Int32) (w19 : Int32) (g20 : Nat) (w21 : Int32) (g22 : Nat) (g23 : Nat) (g24 : Nat) (w25 : Int32) (w26 : Int32) (w27 : Int32) (g28 : Nat) (g29 : Nat) (w30 : Int32) (g31 : Nat) (g32 : Nat) (g33 : Nat) : Option Value → va_W → Prop := fun rr ww => (rr = some (.int (nI 1)) ∧ ww = [(o, .inr (8, [.int w0, .ref g1, .ref g2, .ref g3, .ref g4, .int (nI tp), .int (nI ps.1), .int (nI ps.2.1), .int (nI sz), .int (nI ps.2.2.1), .int ps.2.2.2.1, .int (nI ps.2.2.2.2.1), .int ps.2.2.2.2.2, .int w13, .int w14, .ref g15, .int w16, .ref g17, .int w18, .int w19, .ref g20, .int w21, .ref g22, .ref g23, .ref g24, .int w25, .int w26, .int w27, .ref g28, .ref g29, .int w30, .ref g31, .ref g32, .ref g33]))] ∧ ps.2.2.2.2.1 = 0 ∧ ps.2.2.1 = k) ∨ (rr = some (.int (nI 0)) ∧ ww = [(o, .inr (8, [.int w0, .ref g1, .ref g2, .ref g3, .ref g4, .int (nI tp), .int (nI ps.1), .int (nI ps.2.1), .int (nI sz), .int (nI ps.2.2.1), .int ps.2.2.2.1, .int (nI ps.2.2.2.2.1), .int ps.2.2.2.2.2, .int w13, .int w14, .ref g15, .int w16, .ref g17, .int w18, .int w19, .ref g20, .int w21, .ref g22, .ref g23, .ref g24, .int w25, .int w26, .int w27, .ref g28, .ref g29, .int w30, .ref g31, .ref g32, .ref g33]))] ∧ (¬ (ps.2.2.2.2.1 = 0 ∧ ps.2.2.1 = k)))
set_option maxHeartbeats 4000000 in
set_option maxRecDepth 100000 in
theorem m_is_f (l : Launch) (D : va_G) (T : Nat → ClassId) (ps : PS) (sz : Nat) (o : Nat) (k : Nat) (w0 : Int32) (g1 : Nat) (g2 : Nat) (g3 : Nat) (g4 : Nat) (tp : Nat) (w13 : Int32) (w14 : Int32) (g15 : Nat) (w16 : Int32) (g17 : Nat) (w18 : Int32) (w19 : Int32) (g20 : Nat) (w21 : Int32) (g22 : Nat) (g23 : Nat) (g24 : Nat) (w25 : Int32) (w26 : Int32) (w27 : Int32) (g28 : Nat) (g29 : Nat) (w30 : Int32) (g31 : Nat) (g32 : Nat) (g33 : Nat) (h_k : ps.2.2.1 ≤ 12) (h_w : ps.2.2.2.2.1 ≤ 4) (h_k12 : k ≤ 12) : Ct l yX8_is cX8_is 2 (some .boolean) 0 0 0 D T [.ref o, .int (nI k)] [(o, .inr (8, [.int w0, .ref g1, .ref g2, .ref g3, .ref g4, .int (nI tp), .int (nI ps.1), .int (nI ps.2.1), .int (nI sz), .int (nI ps.2.2.1), .int ps.2.2.2.1, .int (nI ps.2.2.2.2.1), .int ps.2.2.2.2.2, .int w13, .int w14, .ref g15, .int w16, .ref g17, .int w18, .int w19, .ref g20, .int w21, .ref g22, .ref g23, .ref g24, .int w25, .int w26, .int w27, .ref g28, .ref g29, .int w30, .ref g31, .ref g32, .ref g33]))] (q_m_is_f T ps sz o k w0 g1 g2 g3 g4 tp w13 w14 g15 w16 g17 w18 w19 g20 w21 g22 g23 g24 w25 w26 w27 g28 g29 w30 g31 g32 g33) := by
  refine Ct.of (cc := cX8_is) (maxL := 2) (ret := (some .boolean)) (by decide) (Nat.le_of_ble_eq_true rfl) ?_
  intro p e s m args below meth c A ls hC hnm V hl
  obtain ⟨hx, hb, hr, hml, hown, hts, hlocks⟩ := id hC
  generalize hH : s.heap = H at V ⊢
  clear hH
  have hl : lv_has ls 2 [(0, .ref o), (1, .int (nI k))] := hl
  generalize hlo : ([] : List Loc) = locs at V ⊢
  clear hlo
  refine lv_aload_n hx hb dX8_is_0 rfl (lv_at hl 0 rfl) ?_
  refine g_get hC V (ci := 8) uwX8 0 rfl rfl 11 (by decide) w_923 rfl rfl dX8_is_1 ?_
  refine lv_if_ne (tgt := 19) hx hb dX8_is_4 (by decide) (fun c_1 => ?_) (fun c_1 => ?_)
  · skip
    rw [show (0 : Int32) = nI 0 from rfl] at c_1
    have c_1 := b_ne (by omega) (by omega) c_1
    refine lv_iconst (v := (nI 0)) hx hb dX8_is_19 (by decide +kernel) ?_
    exact g_zret (Qr := (q_m_is_f T ps sz o k w0 g1 g2 g3 g4 tp w13 w14 g15 w16 g17 w18 w19 g20 w21 g22 g23 g24 w25 w26 w27 g28 g29 w30 g31 g32 g33)) hC V ⟨(Nat.le_of_ble_eq_true rfl), (Nat.le_of_ble_eq_true rfl)⟩ (by first | decide +kernel | exact rfl) (.inr ⟨rfl, rfl, (by omega)⟩) dX8_is_20
  · skip
    rw [show (0 : Int32) = nI 0 from rfl] at c_1
    have c_1 := b_eq (by omega) (by omega) c_1
    refine lv_aload_n hx hb dX8_is_7 rfl (lv_at hl 0 rfl) ?_
    refine g_get hC V (ci := 8) uwX8 0 rfl rfl 9 (by decide) w_921 rfl rfl dX8_is_8 ?_
    refine lv_iload_n hx hb dX8_is_11 rfl (lv_at hl 1 rfl) ?_
    refine lv_icmp_ne (tgt := 19) hx hb dX8_is_12 (by decide) (fun c_2 => ?_) (fun c_2 => ?_)
    · skip
      have c_2 := b_ne (by omega) (by omega) c_2
      refine lv_iconst (v := (nI 0)) hx hb dX8_is_19 (by decide +kernel) ?_
      exact g_zret (Qr := (q_m_is_f T ps sz o k w0 g1 g2 g3 g4 tp w13 w14 g15 w16 g17 w18 w19 g20 w21 g22 g23 g24 w25 w26 w27 g28 g29 w30 g31 g32 g33)) hC V ⟨(Nat.le_of_ble_eq_true rfl), (Nat.le_of_ble_eq_true rfl)⟩ (by first | decide +kernel | exact rfl) (.inr ⟨rfl, rfl, (by omega)⟩) dX8_is_20
    · skip
      have c_2 := b_eq (by omega) (by omega) c_2
      refine lv_iconst (v := (nI 1)) hx hb dX8_is_15 (by decide +kernel) ?_
      refine lv_goto (tgt := 20) hx hb dX8_is_16 (by decide) ?_
      exact g_zret (Qr := (q_m_is_f T ps sz o k w0 g1 g2 g3 g4 tp w13 w14 g15 w16 g17 w18 w19 g20 w21 g22 g23 g24 w25 w26 w27 g28 g29 w30 g31 g32 g33)) hC V ⟨(Nat.le_of_ble_eq_true rfl), (Nat.le_of_ble_eq_true rfl)⟩ (by first | decide +kernel | exact rfl) (.inl ⟨rfl, rfl, (by omega), (by omega)⟩) dX8_is_20

def q_m_eats_f (T : Nat → ClassId) (ps : PS) (o : Nat) (k : Nat) (w0 : Int32) (g1 : Nat) (g2 : Nat) (g3 : Nat) (g4 : Nat) (tp : Nat) (sz : Nat) (w13 : Int32) (w14 : Int32) (g15 : Nat) (w16 : Int32) (g17 : Nat) (w18 : Int32) (w19 : Int32) (g20 : Nat) (w21 : Int32) (g22 : Nat) (g23 : Nat) (g24 : Nat) (w25 : Int32) (w26 : Int32) (w27 : Int32) (g28 : Nat) (g29 : Nat) (w30 : Int32) (g31 : Nat) (g32 : Nat) (g33 : Nat) (ft : Nat → Int32) : Option Value → va_W → Prop := fun rr ww => (∃ (p2 : PS), rr = some (.int (nI 1)) ∧ ww = [(o, .inr (8, [.int w0, .ref g1, .ref g2, .ref g3, .ref g4, .int (nI tp), .int (nI p2.1), .int (nI p2.2.1), .int (nI sz), .int (nI p2.2.2.1), .int p2.2.2.2.1, .int (nI p2.2.2.2.2.1), .int p2.2.2.2.2.2, .int w13, .int w14, .ref g15, .int w16, .ref g17, .int w18, .int w19, .ref g20, .int w21, .ref g22, .ref g23, .ref g24, .int w25, .int w26, .int w27, .ref g28, .ref g29, .int w30, .ref g31, .ref g32, .ref g33])), (g3, .inl (T 0, 900, .inl ft))] ∧ p2 = nxS ft sz ps ∧ ps.2.2.2.2.1 = 0 ∧ ps.2.2.1 = k) ∨ (rr = some (.int (nI 0)) ∧ ww = [(o, .inr (8, [.int w0, .ref g1, .ref g2, .ref g3, .ref g4, .int (nI tp), .int (nI ps.1), .int (nI ps.2.1), .int (nI sz), .int (nI ps.2.2.1), .int ps.2.2.2.1, .int (nI ps.2.2.2.2.1), .int ps.2.2.2.2.2, .int w13, .int w14, .ref g15, .int w16, .ref g17, .int w18, .int w19, .ref g20, .int w21, .ref g22, .ref g23, .ref g24, .int w25, .int w26, .int w27, .ref g28, .ref g29, .int w30, .ref g31, .ref g32, .ref g33])), (g3, .inl (T 0, 900, .inl ft))] ∧ (¬ (ps.2.2.2.2.1 = 0 ∧ ps.2.2.1 = k)))
set_option maxHeartbeats 4000000 in
set_option maxRecDepth 100000 in
theorem m_eats_f (l : Launch) (D : va_G) (T : Nat → ClassId) (ps : PS) (o : Nat) (k : Nat) (w0 : Int32) (g1 : Nat) (g2 : Nat) (g3 : Nat) (g4 : Nat) (tp : Nat) (sz : Nat) (w13 : Int32) (w14 : Int32) (g15 : Nat) (w16 : Int32) (g17 : Nat) (w18 : Int32) (w19 : Int32) (g20 : Nat) (w21 : Int32) (g22 : Nat) (g23 : Nat) (g24 : Nat) (w25 : Int32) (w26 : Int32) (w27 : Int32) (g28 : Nat) (g29 : Nat) (w30 : Int32) (g31 : Nat) (g32 : Nat) (g33 : Nat) (ft : Nat → Int32) (h_sz : sz ≤ 900) (h_p : PI ft sz ps) (h_k12 : k ≤ 12) : Ct l yX8_eats cX8_eats 2 (some .boolean) 6 0 0 D T [.ref o, .int (nI k)] [(o, .inr (8, [.int w0, .ref g1, .ref g2, .ref g3, .ref g4, .int (nI tp), .int (nI ps.1), .int (nI ps.2.1), .int (nI sz), .int (nI ps.2.2.1), .int ps.2.2.2.1, .int (nI ps.2.2.2.2.1), .int ps.2.2.2.2.2, .int w13, .int w14, .ref g15, .int w16, .ref g17, .int w18, .int w19, .ref g20, .int w21, .ref g22, .ref g23, .ref g24, .int w25, .int w26, .int w27, .ref g28, .ref g29, .int w30, .ref g31, .ref g32, .ref g33])), (g3, .inl (T 0, 900, .inl ft))] (q_m_eats_f T ps o k w0 g1 g2 g3 g4 tp sz w13 w14 g15 w16 g17 w18 w19 g20 w21 g22 g23 g24 w25 w26 w27 g28 g29 w30 g31 g32 g33 ft) := by
  refine Ct.of (cc := cX8_eats) (maxL := 2) (ret := (some .boolean)) (by decide) (Nat.le_of_ble_eq_true rfl) ?_
  intro p e s m args below meth c A ls hC hnm V hl
  obtain ⟨hx, hb, hr, hml, hown, hts, hlocks⟩ := id hC
  generalize hH : s.heap = H at V ⊢
  clear hH
  have hl : lv_has ls 2 [(0, .ref o), (1, .int (nI k))] := hl
  generalize hlo : ([] : List Loc) = locs at V ⊢
  clear hlo
  obtain ⟨_, _, _, _, -⟩ := id h_p
  refine lv_aload_n hx hb dX8_eats_0 rfl (lv_at hl 0 rfl) ?_
  refine lv_iload_n hx hb dX8_eats_1 rfl (lv_at hl 1 rfl) ?_
  refine g_callVU (nA := 1) hC V hl.1 (m_is_f l D T ps sz o k w0 g1 g2 g3 g4 tp w13 w14 g15 w16 g17 w18 w19 g20 w21 g22 g23 g24 w25 w26 w27 g28 g29 w30 g31 g32 g33 (by first | assumption | omega) (by first | assumption | omega) (by first | assumption | omega)) w_1047 w_1049 w_s39 w_9 w_1050 (by decide +kernel) rfl ⟨(Nat.le_of_ble_eq_true rfl), (Nat.le_of_ble_eq_true rfl)⟩ 0 (ci := 8) rfl rfl [0] rfl rfl (Nat.le_of_ble_eq_true rfl) dX8_eats_2 ⟨(Nat.le_of_ble_eq_true rfl), (Nat.le_of_ble_eq_true rfl)⟩ rfl (fun r w1 H locs hQ V => ?_)
  rcases hQ with ⟨rfl, rfl, f_1, f_2⟩ | ⟨rfl, rfl, f_3⟩
  · have V : gW D T A s [(o, .inr (8, [.int w0, .ref g1, .ref g2, .ref g3, .ref g4, .int (nI tp), .int (nI ps.1), .int (nI ps.2.1), .int (nI sz), .int (nI ps.2.2.1), .int ps.2.2.2.1, .int (nI ps.2.2.2.2.1), .int ps.2.2.2.2.2, .int w13, .int w14, .ref g15, .int w16, .ref g17, .int w18, .int w19, .ref g20, .int w21, .ref g22, .ref g23, .ref g24, .int w25, .int w26, .int w27, .ref g28, .ref g29, .int w30, .ref g31, .ref g32, .ref g33])), (g3, .inl (T 0, 900, .inl ft))] H locs := V _ [0] rfl rfl rfl (by decide +kernel) rfl
    show W p l e _ s m args below meth c H locs _ _ _ (F0 m 5 ls [.int (nI 1)])
    refine lv_if_ne (tgt := 10) hx hb dX8_eats_5 (by decide) (fun _ => ?_) (fun c => absurd (show (nI 1) = 0 from c) (by decide +kernel))
    refine lv_aload_n hx hb dX8_eats_10 rfl (lv_at hl 0 rfl) ?_
    refine g_callV (wr := []) (nA := 0) hC V hl.1 (m_next_f l D T o w0 g1 g2 g3 g4 tp (nI ps.1) ps.2.1 sz (nI ps.2.2.1) ps.2.2.2.1 ps.2.2.2.2.1 ps.2.2.2.2.2 w13 w14 g15 w16 g17 w18 w19 g20 w21 g22 g23 g24 w25 w26 w27 g28 g29 w30 g31 g32 g33 ft (by first | assumption | omega) (by first | assumption | omega) (by first | assumption | omega)) w_1026 w_1028 w_s36 w_9 w_1029 (by decide +kernel) rfl ⟨(Nat.le_of_ble_eq_true rfl), (Nat.le_of_ble_eq_true rfl)⟩ 0 (ci := 8) rfl rfl [0, 1] [] rfl rfl rfl rfl (by decide) (Nat.le_of_ble_eq_true rfl) dX8_eats_11 ⟨(Nat.le_of_ble_eq_true rfl), (Nat.le_of_ble_eq_true rfl)⟩ rfl (fun r w1 H locs hQ V => ?_)
    obtain ⟨p2_4, rfl, rfl, f_5⟩ := hQ
    have V : gW D T A s [(o, .inr (8, [.int w0, .ref g1, .ref g2, .ref g3, .ref g4, .int (nI tp), .int (nI p2_4.1), .int (nI p2_4.2.1), .int (nI sz), .int (nI p2_4.2.2.1), .int p2_4.2.2.2.1, .int (nI p2_4.2.2.2.2.1), .int p2_4.2.2.2.2.2, .int w13, .int w14, .ref g15, .int w16, .ref g17, .int w18, .int w19, .ref g20, .int w21, .ref g22, .ref g23, .ref g24, .int w25, .int w26, .int w27, .ref g28, .ref g29, .int w30, .ref g31, .ref g32, .ref g33])), (g3, .inl (T 0, 900, .inl ft))] H locs := V
    show W p l e _ s m args below meth c H locs _ _ _ (F0 m 14 ls [])
    refine lv_iconst (v := (nI 1)) hx hb dX8_eats_14 (by decide +kernel) ?_
    exact g_zret (Qr := (q_m_eats_f T ps o k w0 g1 g2 g3 g4 tp sz w13 w14 g15 w16 g17 w18 w19 g20 w21 g22 g23 g24 w25 w26 w27 g28 g29 w30 g31 g32 g33 ft)) hC V ⟨(Nat.le_of_ble_eq_true rfl), (Nat.le_of_ble_eq_true rfl)⟩ (by first | decide +kernel | exact rfl) (.inl ⟨p2_4, rfl, rfl, f_5, (by assumption), (by assumption)⟩) dX8_eats_15
  · have V : gW D T A s [(o, .inr (8, [.int w0, .ref g1, .ref g2, .ref g3, .ref g4, .int (nI tp), .int (nI ps.1), .int (nI ps.2.1), .int (nI sz), .int (nI ps.2.2.1), .int ps.2.2.2.1, .int (nI ps.2.2.2.2.1), .int ps.2.2.2.2.2, .int w13, .int w14, .ref g15, .int w16, .ref g17, .int w18, .int w19, .ref g20, .int w21, .ref g22, .ref g23, .ref g24, .int w25, .int w26, .int w27, .ref g28, .ref g29, .int w30, .ref g31, .ref g32, .ref g33])), (g3, .inl (T 0, 900, .inl ft))] H locs := V _ [0] rfl rfl rfl (by decide +kernel) rfl
    show W p l e _ s m args below meth c H locs _ _ _ (F0 m 5 ls [.int (nI 0)])
    refine lv_if_ne (tgt := 10) hx hb dX8_eats_5 (by decide) (fun c => absurd (show (nI 0) = 0 by decide +kernel) c) (fun _ => ?_)
    refine lv_iconst (v := (nI 0)) hx hb dX8_eats_8 (by decide +kernel) ?_
    exact g_zret (Qr := (q_m_eats_f T ps o k w0 g1 g2 g3 g4 tp sz w13 w14 g15 w16 g17 w18 w19 g20 w21 g22 g23 g24 w25 w26 w27 g28 g29 w30 g31 g32 g33 ft)) hC V ⟨(Nat.le_of_ble_eq_true rfl), (Nat.le_of_ble_eq_true rfl)⟩ (by first | decide +kernel | exact rfl) (.inr ⟨rfl, rfl, (by assumption)⟩) dX8_eats_9

def q_m_takes_f (T : Nat → ClassId) (ps : PS) (o : Nat) (lo : Int32) (hi : Int32) (w0 : Int32) (g1 : Nat) (g2 : Nat) (g3 : Nat) (g4 : Nat) (tp : Nat) (sz : Nat) (w13 : Int32) (w14 : Int32) (g15 : Nat) (w16 : Int32) (g17 : Nat) (w18 : Int32) (w19 : Int32) (g20 : Nat) (w21 : Int32) (g22 : Nat) (g23 : Nat) (g24 : Nat) (w25 : Int32) (w26 : Int32) (w27 : Int32) (g28 : Nat) (g29 : Nat) (w30 : Int32) (g31 : Nat) (g32 : Nat) (g33 : Nat) (ft : Nat → Int32) : Option Value → va_W → Prop := fun rr ww => (∃ (p2 : PS), rr = some (.int ps.2.2.2.1) ∧ ww = [(o, .inr (8, [.int w0, .ref g1, .ref g2, .ref g3, .ref g4, .int (nI tp), .int (nI p2.1), .int (nI p2.2.1), .int (nI sz), .int (nI p2.2.2.1), .int p2.2.2.2.1, .int (nI p2.2.2.2.2.1), .int p2.2.2.2.2.2, .int w13, .int w14, .ref g15, .int w16, .ref g17, .int w18, .int w19, .ref g20, .int w21, .ref g22, .ref g23, .ref g24, .int w25, .int w26, .int w27, .ref g28, .ref g29, .int w30, .ref g31, .ref g32, .ref g33])), (g3, .inl (T 0, 900, .inl ft))] ∧ p2 = tkS ft sz lo hi ps)
set_option maxHeartbeats 4000000 in
set_option maxRecDepth 100000 in
theorem m_takes_f (l : Launch) (D : va_G) (T : Nat → ClassId) (ps : PS) (o : Nat) (lo : Int32) (hi : Int32) (w0 : Int32) (g1 : Nat) (g2 : Nat) (g3 : Nat) (g4 : Nat) (tp : Nat) (sz : Nat) (w13 : Int32) (w14 : Int32) (g15 : Nat) (w16 : Int32) (g17 : Nat) (w18 : Int32) (w19 : Int32) (g20 : Nat) (w21 : Int32) (g22 : Nat) (g23 : Nat) (g24 : Nat) (w25 : Int32) (w26 : Int32) (w27 : Int32) (g28 : Nat) (g29 : Nat) (w30 : Int32) (g31 : Nat) (g32 : Nat) (g33 : Nat) (ft : Nat → Int32) (h_sz : sz ≤ 900) (h_p : PI ft sz ps) : Ct l yX8_takes cX8_takes 4 (some .int) 6 0 0 D T [.ref o, .int lo, .int hi] [(o, .inr (8, [.int w0, .ref g1, .ref g2, .ref g3, .ref g4, .int (nI tp), .int (nI ps.1), .int (nI ps.2.1), .int (nI sz), .int (nI ps.2.2.1), .int ps.2.2.2.1, .int (nI ps.2.2.2.2.1), .int ps.2.2.2.2.2, .int w13, .int w14, .ref g15, .int w16, .ref g17, .int w18, .int w19, .ref g20, .int w21, .ref g22, .ref g23, .ref g24, .int w25, .int w26, .int w27, .ref g28, .ref g29, .int w30, .ref g31, .ref g32, .ref g33])), (g3, .inl (T 0, 900, .inl ft))] (q_m_takes_f T ps o lo hi w0 g1 g2 g3 g4 tp sz w13 w14 g15 w16 g17 w18 w19 g20 w21 g22 g23 g24 w25 w26 w27 g28 g29 w30 g31 g32 g33 ft) := by
  refine Ct.of (cc := cX8_takes) (maxL := 4) (ret := (some .int)) (by decide) (Nat.le_of_ble_eq_true rfl) ?_
  intro p e s m args below meth c A ls hC hnm V hl
  obtain ⟨hx, hb, hr, hml, hown, hts, hlocks⟩ := id hC
  generalize hH : s.heap = H at V ⊢
  clear hH
  have hl : lv_has ls 4 [(0, .ref o), (1, .int lo), (2, .int hi)] := hl
  generalize hlo : ([] : List Loc) = locs at V ⊢
  clear hlo
  obtain ⟨_, _, _, _, -⟩ := id h_p
  refine lv_aload_n hx hb dX8_takes_0 rfl (lv_at hl 0 rfl) ?_
  refine lv_bipush (v := (nI 9)) hx hb dX8_takes_1 (by decide +kernel) ?_
  refine g_callVU (nA := 1) hC V hl.1 (m_is_f l D T ps sz o 9 w0 g1 g2 g3 g4 tp w13 w14 g15 w16 g17 w18 w19 g20 w21 g22 g23 g24 w25 w26 w27 g28 g29 w30 g31 g32 g33 (by first | assumption | omega) (by first | assumption | omega) (by first | assumption | omega)) w_1047 w_1049 w_s39 w_9 w_1050 (by decide +kernel) rfl ⟨(Nat.le_of_ble_eq_true rfl), (Nat.le_of_ble_eq_true rfl)⟩ 0 (ci := 8) rfl rfl [0] rfl rfl (Nat.le_of_ble_eq_true rfl) dX8_takes_3 ⟨(Nat.le_of_ble_eq_true rfl), (Nat.le_of_ble_eq_true rfl)⟩ rfl (fun r w1 H locs hQ V => ?_)
  rcases hQ with ⟨rfl, rfl, f_1, f_2⟩ | ⟨rfl, rfl, f_3⟩
  · have V : gW D T A s [(o, .inr (8, [.int w0, .ref g1, .ref g2, .ref g3, .ref g4, .int (nI tp), .int (nI ps.1), .int (nI ps.2.1), .int (nI sz), .int (nI ps.2.2.1), .int ps.2.2.2.1, .int (nI ps.2.2.2.2.1), .int ps.2.2.2.2.2, .int w13, .int w14, .ref g15, .int w16, .ref g17, .int w18, .int w19, .ref g20, .int w21, .ref g22, .ref g23, .ref g24, .int w25, .int w26, .int w27, .ref g28, .ref g29, .int w30, .ref g31, .ref g32, .ref g33])), (g3, .inl (T 0, 900, .inl ft))] H locs := V _ [0] rfl rfl rfl (by decide +kernel) rfl
    show W p l e _ s m args below meth c H locs _ _ _ (F0 m 6 ls [.int (nI 1)])
    refine lv_if_ne (tgt := 17) hx hb dX8_takes_6 (by decide) (fun _ => ?_) (fun c => absurd (show (nI 1) = 0 from c) (by decide +kernel))
    refine lv_aload_n hx hb dX8_takes_17 rfl (lv_at hl 0 rfl) ?_
    refine g_get hC V (ci := 8) uwX8 0 rfl rfl 10 (by decide) w_922 rfl rfl dX8_takes_18 ?_
    refine lv_i2l (v := ps.2.2.2.1.toInt64) hx hb dX8_takes_21 rfl ?_
    refine lv_iload_n hx hb dX8_takes_22 rfl (lv_at hl 1 rfl) ?_
    refine lv_i2l (v := lo.toInt64) hx hb dX8_takes_23 rfl ?_
    refine lv_iload_n hx hb dX8_takes_24 rfl (lv_at hl 2 rfl) ?_
    refine lv_i2l (v := hi.toInt64) hx hb dX8_takes_25 rfl ?_
    refine g_callSU (nA := 3) hC V hl.1 (m_within l D T ps.2.2.2.1 lo hi) w_1023 w_1024 w_9 w_1025 (by decide +kernel) rfl ⟨(Nat.le_of_ble_eq_true rfl), (Nat.le_of_ble_eq_true rfl)⟩ [] rfl rfl (Nat.le_of_ble_eq_true rfl) dX8_takes_26 ⟨(Nat.le_of_ble_eq_true rfl), (Nat.le_of_ble_eq_true rfl)⟩ rfl (fun r w1 H locs hQ V => ?_)
    rcases hQ with ⟨rfl, rfl, f_4, f_5⟩ | ⟨rfl, rfl, f_6⟩
    · have V : gW D T A s [(o, .inr (8, [.int w0, .ref g1, .ref g2, .ref g3, .ref g4, .int (nI tp), .int (nI ps.1), .int (nI ps.2.1), .int (nI sz), .int (nI ps.2.2.1), .int ps.2.2.2.1, .int (nI ps.2.2.2.2.1), .int ps.2.2.2.2.2, .int w13, .int w14, .ref g15, .int w16, .ref g17, .int w18, .int w19, .ref g20, .int w21, .ref g22, .ref g23, .ref g24, .int w25, .int w26, .int w27, .ref g28, .ref g29, .int w30, .ref g31, .ref g32, .ref g33])), (g3, .inl (T 0, 900, .inl ft))] H locs := V _ [] rfl rfl rfl (by decide +kernel) rfl
      show W p l e _ s m args below meth c H locs _ _ _ (F0 m 29 ls [.int (nI 1)])
      refine lv_if_ne (tgt := 37) hx hb dX8_takes_29 (by decide) (fun _ => ?_) (fun c => absurd (show (nI 1) = 0 from c) (by decide +kernel))
      refine lv_aload_n hx hb dX8_takes_37 rfl (lv_at hl 0 rfl) ?_
      refine g_get hC V (ci := 8) uwX8 0 rfl rfl 10 (by decide) w_922 rfl rfl dX8_takes_38 ?_
      refine lv_istore_n (lv' := [(3, .int ps.2.2.2.1), (0, .ref o), (1, .int lo), (2, .int hi)]) hx hb dX8_takes_41 rfl hl (by decide) rfl (fun ls hl => ?_)
      refine lv_aload_n hx hb dX8_takes_42 rfl (lv_at hl 1 rfl) ?_
      refine g_get hC V (ci := 8) uwX8 0 rfl rfl 11 (by decide) w_923 rfl rfl dX8_takes_43 ?_
      refine lv_if_ne (tgt := 53) hx hb dX8_takes_46 (by decide) (fun c_7 => ?_) (fun c_7 => ?_)
      · skip
        rw [show (0 : Int32) = nI 0 from rfl] at c_7
        have c_7 := b_ne (by omega) (by omega) c_7
        exact (by omega : False).elim
      · skip
        rw [show (0 : Int32) = nI 0 from rfl] at c_7
        have c_7 := b_eq (by omega) (by omega) c_7
        refine lv_aload_n hx hb dX8_takes_49 rfl (lv_at hl 1 rfl) ?_
        refine g_callV (wr := []) (nA := 0) hC V hl.1 (m_next_f l D T o w0 g1 g2 g3 g4 tp (nI ps.1) ps.2.1 sz (nI ps.2.2.1) ps.2.2.2.1 ps.2.2.2.2.1 ps.2.2.2.2.2 w13 w14 g15 w16 g17 w18 w19 g20 w21 g22 g23 g24 w25 w26 w27 g28 g29 w30 g31 g32 g33 ft (by first | assumption | omega) (by first | assumption | omega) (by first | assumption | omega)) w_1026 w_1028 w_s36 w_9 w_1029 (by decide +kernel) rfl ⟨(Nat.le_of_ble_eq_true rfl), (Nat.le_of_ble_eq_true rfl)⟩ 0 (ci := 8) rfl rfl [0, 1] [] rfl rfl rfl rfl (by decide) (Nat.le_of_ble_eq_true rfl) dX8_takes_50 ⟨(Nat.le_of_ble_eq_true rfl), (Nat.le_of_ble_eq_true rfl)⟩ rfl (fun r w1 H locs hQ V => ?_)
        obtain ⟨p2_8, rfl, rfl, f_9⟩ := hQ
        have V : gW D T A s [(o, .inr (8, [.int w0, .ref g1, .ref g2, .ref g3, .ref g4, .int (nI tp), .int (nI p2_8.1), .int (nI p2_8.2.1), .int (nI sz), .int (nI p2_8.2.2.1), .int p2_8.2.2.2.1, .int (nI p2_8.2.2.2.2.1), .int p2_8.2.2.2.2.2, .int w13, .int w14, .ref g15, .int w16, .ref g17, .int w18, .int w19, .ref g20, .int w21, .ref g22, .ref g23, .ref g24, .int w25, .int w26, .int w27, .ref g28, .ref g29, .int w30, .ref g31, .ref g32, .ref g33])), (g3, .inl (T 0, 900, .inl ft))] H locs := V
        show W p l e _ s m args below meth c H locs _ _ _ (F0 m 53 ls [])
        refine lv_iload_n hx hb dX8_takes_53 rfl (lv_at hl 0 rfl) ?_
        exact g_iret (Qr := (q_m_takes_f T ps o lo hi w0 g1 g2 g3 g4 tp sz w13 w14 g15 w16 g17 w18 w19 g20 w21 g22 g23 g24 w25 w26 w27 g28 g29 w30 g31 g32 g33 ft)) hC V ⟨(Nat.le_of_ble_eq_true rfl), (Nat.le_of_ble_eq_true rfl)⟩ ⟨p2_8, rfl, rfl, (Eq.trans f_9 (tk_ok (by assumption) (by assumption) (by assumption) (by assumption)).symm)⟩ dX8_takes_54
    · have V : gW D T A s [(o, .inr (8, [.int w0, .ref g1, .ref g2, .ref g3, .ref g4, .int (nI tp), .int (nI ps.1), .int (nI ps.2.1), .int (nI sz), .int (nI ps.2.2.1), .int ps.2.2.2.1, .int (nI ps.2.2.2.2.1), .int ps.2.2.2.2.2, .int w13, .int w14, .ref g15, .int w16, .ref g17, .int w18, .int w19, .ref g20, .int w21, .ref g22, .ref g23, .ref g24, .int w25, .int w26, .int w27, .ref g28, .ref g29, .int w30, .ref g31, .ref g32, .ref g33])), (g3, .inl (T 0, 900, .inl ft))] H locs := V _ [] rfl rfl rfl (by decide +kernel) rfl
      show W p l e _ s m args below meth c H locs _ _ _ (F0 m 29 ls [.int (nI 0)])
      refine lv_if_ne (tgt := 37) hx hb dX8_takes_29 (by decide) (fun c => absurd (show (nI 0) = 0 by decide +kernel) c) (fun _ => ?_)
      refine lv_aload_n hx hb dX8_takes_32 rfl (lv_at hl 0 rfl) ?_
      refine lv_iconst (v := (nI 3)) hx hb dX8_takes_33 (by decide +kernel) ?_
      refine g_callVU (nA := 1) hC V hl.1 (m_fails_f l D T ps sz o 3 w0 g1 g2 g3 g4 tp w13 w14 g15 w16 g17 w18 w19 g20 w21 g22 g23 g24 w25 w26 w27 g28 g29 w30 g31 g32 g33 (by first | assumption | omega) (by first | assumption | omega)) w_1055 w_1057 w_s41 w_9 w_1058 (by decide +kernel) rfl ⟨(Nat.le_of_ble_eq_true rfl), (Nat.le_of_ble_eq_true rfl)⟩ 0 (ci := 8) rfl rfl [0] rfl rfl (Nat.le_of_ble_eq_true rfl) dX8_takes_34 ⟨(Nat.le_of_ble_eq_true rfl), (Nat.le_of_ble_eq_true rfl)⟩ rfl (fun r w1 H locs hQ V => ?_)
      obtain ⟨p2_10, rfl, rfl, f_11⟩ := hQ
      have V : gW D T A s [(o, .inr (8, [.int w0, .ref g1, .ref g2, .ref g3, .ref g4, .int (nI tp), .int (nI p2_10.1), .int (nI p2_10.2.1), .int (nI sz), .int (nI p2_10.2.2.1), .int p2_10.2.2.2.1, .int (nI p2_10.2.2.2.2.1), .int p2_10.2.2.2.2.2, .int w13, .int w14, .ref g15, .int w16, .ref g17, .int w18, .int w19, .ref g20, .int w21, .ref g22, .ref g23, .ref g24, .int w25, .int w26, .int w27, .ref g28, .ref g29, .int w30, .ref g31, .ref g32, .ref g33])), (g3, .inl (T 0, 900, .inl ft))] H locs := V _ [0] rfl rfl rfl (by decide +kernel) rfl
      show W p l e _ s m args below meth c H locs _ _ _ (F0 m 37 ls [])
      have hwp2_10 : ¬ p2_10.2.2.2.2.1 = 0 := by rw [f_11]; exact fa_w (by decide)
      have hPp2_10 : PI ft sz p2_10 := by rw [f_11]; exact PI_fa h_p (by decide)
      obtain ⟨_, _, _, _, -⟩ := id hPp2_10
      refine lv_aload_n hx hb dX8_takes_37 rfl (lv_at hl 0 rfl) ?_
      refine g_get hC V (ci := 8) uwX8 0 rfl rfl 10 (by decide) w_922 rfl rfl dX8_takes_38 ?_
      refine g_vi (y := ps.2.2.2.1) (by rw [f_11]; exact fa_nu) ?_
      refine lv_istore_n (lv' := [(3, .int ps.2.2.2.1), (0, .ref o), (1, .int lo), (2, .int hi)]) hx hb dX8_takes_41 rfl hl (by decide) rfl (fun ls hl => ?_)
      refine lv_aload_n hx hb dX8_takes_42 rfl (lv_at hl 1 rfl) ?_
      refine g_get hC V (ci := 8) uwX8 0 rfl rfl 11 (by decide) w_923 rfl rfl dX8_takes_43 ?_
      refine lv_if_ne (tgt := 53) hx hb dX8_takes_46 (by decide) (fun c_12 => ?_) (fun c_12 => ?_)
      · skip
        rw [show (0 : Int32) = nI 0 from rfl] at c_12
        have c_12 := b_ne (by omega) (by omega) c_12
        refine lv_iload_n hx hb dX8_takes_53 rfl (lv_at hl 0 rfl) ?_
        exact g_iret (Qr := (q_m_takes_f T ps o lo hi w0 g1 g2 g3 g4 tp sz w13 w14 g15 w16 g17 w18 w19 g20 w21 g22 g23 g24 w25 w26 w27 g28 g29 w30 g31 g32 g33 ft)) hC V ⟨(Nat.le_of_ble_eq_true rfl), (Nat.le_of_ble_eq_true rfl)⟩ ⟨p2_10, rfl, rfl, (f_11.trans (tk_3 (by assumption) (by assumption) (by assumption)).symm)⟩ dX8_takes_54
      · skip
        rw [show (0 : Int32) = nI 0 from rfl] at c_12
        have c_12 := b_eq (by omega) (by omega) c_12
        exact (by omega : False).elim
  · have V : gW D T A s [(o, .inr (8, [.int w0, .ref g1, .ref g2, .ref g3, .ref g4, .int (nI tp), .int (nI ps.1), .int (nI ps.2.1), .int (nI sz), .int (nI ps.2.2.1), .int ps.2.2.2.1, .int (nI ps.2.2.2.2.1), .int ps.2.2.2.2.2, .int w13, .int w14, .ref g15, .int w16, .ref g17, .int w18, .int w19, .ref g20, .int w21, .ref g22, .ref g23, .ref g24, .int w25, .int w26, .int w27, .ref g28, .ref g29, .int w30, .ref g31, .ref g32, .ref g33])), (g3, .inl (T 0, 900, .inl ft))] H locs := V _ [0] rfl rfl rfl (by decide +kernel) rfl
    show W p l e _ s m args below meth c H locs _ _ _ (F0 m 6 ls [.int (nI 0)])
    refine lv_if_ne (tgt := 17) hx hb dX8_takes_6 (by decide) (fun c => absurd (show (nI 0) = 0 by decide +kernel) c) (fun _ => ?_)
    refine lv_aload_n hx hb dX8_takes_9 rfl (lv_at hl 0 rfl) ?_
    refine lv_iconst (v := (nI 2)) hx hb dX8_takes_10 (by decide +kernel) ?_
    refine g_callVU (nA := 1) hC V hl.1 (m_fails_f l D T ps sz o 2 w0 g1 g2 g3 g4 tp w13 w14 g15 w16 g17 w18 w19 g20 w21 g22 g23 g24 w25 w26 w27 g28 g29 w30 g31 g32 g33 (by first | assumption | omega) (by first | assumption | omega)) w_1055 w_1057 w_s41 w_9 w_1058 (by decide +kernel) rfl ⟨(Nat.le_of_ble_eq_true rfl), (Nat.le_of_ble_eq_true rfl)⟩ 0 (ci := 8) rfl rfl [0] rfl rfl (Nat.le_of_ble_eq_true rfl) dX8_takes_11 ⟨(Nat.le_of_ble_eq_true rfl), (Nat.le_of_ble_eq_true rfl)⟩ rfl (fun r w1 H locs hQ V => ?_)
    obtain ⟨p2_13, rfl, rfl, f_14⟩ := hQ
    have V : gW D T A s [(o, .inr (8, [.int w0, .ref g1, .ref g2, .ref g3, .ref g4, .int (nI tp), .int (nI p2_13.1), .int (nI p2_13.2.1), .int (nI sz), .int (nI p2_13.2.2.1), .int p2_13.2.2.2.1, .int (nI p2_13.2.2.2.2.1), .int p2_13.2.2.2.2.2, .int w13, .int w14, .ref g15, .int w16, .ref g17, .int w18, .int w19, .ref g20, .int w21, .ref g22, .ref g23, .ref g24, .int w25, .int w26, .int w27, .ref g28, .ref g29, .int w30, .ref g31, .ref g32, .ref g33])), (g3, .inl (T 0, 900, .inl ft))] H locs := V _ [0] rfl rfl rfl (by decide +kernel) rfl
    show W p l e _ s m args below meth c H locs _ _ _ (F0 m 14 ls [])
    have hwp2_13 : ¬ p2_13.2.2.2.2.1 = 0 := by rw [f_14]; exact fa_w (by decide)
    have hPp2_13 : PI ft sz p2_13 := by rw [f_14]; exact PI_fa h_p (by decide)
    obtain ⟨_, _, _, _, -⟩ := id hPp2_13
    refine lv_goto (tgt := 37) hx hb dX8_takes_14 (by decide) ?_
    refine lv_aload_n hx hb dX8_takes_37 rfl (lv_at hl 0 rfl) ?_
    refine g_get hC V (ci := 8) uwX8 0 rfl rfl 10 (by decide) w_922 rfl rfl dX8_takes_38 ?_
    refine g_vi (y := ps.2.2.2.1) (by rw [f_14]; exact fa_nu) ?_
    refine lv_istore_n (lv' := [(3, .int ps.2.2.2.1), (0, .ref o), (1, .int lo), (2, .int hi)]) hx hb dX8_takes_41 rfl hl (by decide) rfl (fun ls hl => ?_)
    refine lv_aload_n hx hb dX8_takes_42 rfl (lv_at hl 1 rfl) ?_
    refine g_get hC V (ci := 8) uwX8 0 rfl rfl 11 (by decide) w_923 rfl rfl dX8_takes_43 ?_
    refine lv_if_ne (tgt := 53) hx hb dX8_takes_46 (by decide) (fun c_15 => ?_) (fun c_15 => ?_)
    · skip
      rw [show (0 : Int32) = nI 0 from rfl] at c_15
      have c_15 := b_ne (by omega) (by omega) c_15
      refine lv_iload_n hx hb dX8_takes_53 rfl (lv_at hl 0 rfl) ?_
      exact g_iret (Qr := (q_m_takes_f T ps o lo hi w0 g1 g2 g3 g4 tp sz w13 w14 g15 w16 g17 w18 w19 g20 w21 g22 g23 g24 w25 w26 w27 g28 g29 w30 g31 g32 g33 ft)) hC V ⟨(Nat.le_of_ble_eq_true rfl), (Nat.le_of_ble_eq_true rfl)⟩ ⟨p2_13, rfl, rfl, (f_14.trans (tk_2 (by assumption)).symm)⟩ dX8_takes_54
    · skip
      rw [show (0 : Int32) = nI 0 from rfl] at c_15
      have c_15 := b_eq (by omega) (by omega) c_15
      exact (by omega : False).elim

def q_m_takesIf_f (T : Nat → ClassId) (ps : PS) (o : Nat) (k : Nat) (lo : Int32) (hi : Int32) (wo : Int32) (w0 : Int32) (g1 : Nat) (g2 : Nat) (g3 : Nat) (g4 : Nat) (tp : Nat) (sz : Nat) (w13 : Int32) (w14 : Int32) (g15 : Nat) (w16 : Int32) (g17 : Nat) (w18 : Int32) (w19 : Int32) (g20 : Nat) (w21 : Int32) (g22 : Nat) (g23 : Nat) (g24 : Nat) (w25 : Int32) (w26 : Int32) (w27 : Int32) (g28 : Nat) (g29 : Nat) (w30 : Int32) (g31 : Nat) (g32 : Nat) (g33 : Nat) (ft : Nat → Int32) : Option Value → va_W → Prop := fun rr ww => (∃ (z : Int32) (p2 : PS), rr = some (.int z) ∧ ww = [(o, .inr (8, [.int w0, .ref g1, .ref g2, .ref g3, .ref g4, .int (nI tp), .int (nI p2.1), .int (nI p2.2.1), .int (nI sz), .int (nI p2.2.2.1), .int p2.2.2.2.1, .int (nI p2.2.2.2.2.1), .int p2.2.2.2.2.2, .int w13, .int w14, .ref g15, .int w16, .ref g17, .int w18, .int w19, .ref g20, .int w21, .ref g22, .ref g23, .ref g24, .int w25, .int w26, .int w27, .ref g28, .ref g29, .int w30, .ref g31, .ref g32, .ref g33])), (g3, .inl (T 0, 900, .inl ft))] ∧ z = tiV ft sz k wo ps ∧ p2 = tiS ft sz k lo hi ps)
set_option maxHeartbeats 4000000 in
set_option maxRecDepth 100000 in
theorem m_takesIf_f (l : Launch) (D : va_G) (T : Nat → ClassId) (ps : PS) (o : Nat) (k : Nat) (lo : Int32) (hi : Int32) (wo : Int32) (w0 : Int32) (g1 : Nat) (g2 : Nat) (g3 : Nat) (g4 : Nat) (tp : Nat) (sz : Nat) (w13 : Int32) (w14 : Int32) (g15 : Nat) (w16 : Int32) (g17 : Nat) (w18 : Int32) (w19 : Int32) (g20 : Nat) (w21 : Int32) (g22 : Nat) (g23 : Nat) (g24 : Nat) (w25 : Int32) (w26 : Int32) (w27 : Int32) (g28 : Nat) (g29 : Nat) (w30 : Int32) (g31 : Nat) (g32 : Nat) (g33 : Nat) (ft : Nat → Int32) (h_sz : sz ≤ 900) (h_p : PI ft sz ps) (h_k12 : k ≤ 12) : Ct l yX8_takesIf cX8_takesIf 5 (some .int) 7 0 0 D T [.ref o, .int (nI k), .int lo, .int hi, .int wo] [(o, .inr (8, [.int w0, .ref g1, .ref g2, .ref g3, .ref g4, .int (nI tp), .int (nI ps.1), .int (nI ps.2.1), .int (nI sz), .int (nI ps.2.2.1), .int ps.2.2.2.1, .int (nI ps.2.2.2.2.1), .int ps.2.2.2.2.2, .int w13, .int w14, .ref g15, .int w16, .ref g17, .int w18, .int w19, .ref g20, .int w21, .ref g22, .ref g23, .ref g24, .int w25, .int w26, .int w27, .ref g28, .ref g29, .int w30, .ref g31, .ref g32, .ref g33])), (g3, .inl (T 0, 900, .inl ft))] (q_m_takesIf_f T ps o k lo hi wo w0 g1 g2 g3 g4 tp sz w13 w14 g15 w16 g17 w18 w19 g20 w21 g22 g23 g24 w25 w26 w27 g28 g29 w30 g31 g32 g33 ft) := by
  refine Ct.of (cc := cX8_takesIf) (maxL := 5) (ret := (some .int)) (by decide) (Nat.le_of_ble_eq_true rfl) ?_
  intro p e s m args below meth c A ls hC hnm V hl
  obtain ⟨hx, hb, hr, hml, hown, hts, hlocks⟩ := id hC
  generalize hH : s.heap = H at V ⊢
  clear hH
  have hl : lv_has ls 5 [(0, .ref o), (1, .int (nI k)), (2, .int lo), (3, .int hi), (4, .int wo)] := hl
  generalize hlo : ([] : List Loc) = locs at V ⊢
  clear hlo
  obtain ⟨_, _, _, _, -⟩ := id h_p
  refine lv_aload_n hx hb dX8_takesIf_0 rfl (lv_at hl 0 rfl) ?_
  refine lv_iload_n hx hb dX8_takesIf_1 rfl (lv_at hl 1 rfl) ?_
  refine g_callV (wr := []) (nA := 1) hC V hl.1 (m_eats_f l D T ps o k w0 g1 g2 g3 g4 tp sz w13 w14 g15 w16 g17 w18 w19 g20 w21 g22 g23 g24 w25 w26 w27 g28 g29 w30 g31 g32 g33 ft (by first | assumption | omega) (by first | assumption | omega) (by first | assumption | omega)) w_1067 w_1069 w_s44 w_9 w_1070 (by decide +kernel) rfl ⟨(Nat.le_of_ble_eq_true rfl), (Nat.le_of_ble_eq_true rfl)⟩ 0 (ci := 8) rfl rfl [0, 1] [] rfl rfl rfl rfl (by decide) (Nat.le_of_ble_eq_true rfl) dX8_takesIf_2 ⟨(Nat.le_of_ble_eq_true rfl), (Nat.le_of_ble_eq_true rfl)⟩ rfl (fun r w1 H locs hQ V => ?_)
  rcases hQ with ⟨p2_1, rfl, rfl, f_2, f_3, f_4⟩ | ⟨rfl, rfl, f_5⟩
  · have V : gW D T A s [(o, .inr (8, [.int w0, .ref g1, .ref g2, .ref g3, .ref g4, .int (nI tp), .int (nI p2_1.1), .int (nI p2_1.2.1), .int (nI sz), .int (nI p2_1.2.2.1), .int p2_1.2.2.2.1, .int (nI p2_1.2.2.2.2.1), .int p2_1.2.2.2.2.2, .int w13, .int w14, .ref g15, .int w16, .ref g17, .int w18, .int w19, .ref g20, .int w21, .ref g22, .ref g23, .ref g24, .int w25, .int w26, .int w27, .ref g28, .ref g29, .int w30, .ref g31, .ref g32, .ref g33])), (g3, .inl (T 0, 900, .inl ft))] H locs := V
    show W p l e _ s m args below meth c H locs _ _ _ (F0 m 5 ls [.int (nI 1)])
    have hPp2_1 : PI ft sz p2_1 := by rw [f_2]; exact PI_nxI h_p
    obtain ⟨_, _, _, _, -⟩ := id hPp2_1
    refine lv_if_eq (tgt := 17) hx hb dX8_takesIf_5 (by decide) (fun c => absurd (show (nI 1) = 0 from c) (by decide +kernel)) (fun _ => ?_)
    refine lv_aload_n hx hb dX8_takesIf_8 rfl (lv_at hl 0 rfl) ?_
    refine lv_iload_n hx hb dX8_takesIf_9 rfl (lv_at hl 2 rfl) ?_
    refine lv_iload_n hx hb dX8_takesIf_10 rfl (lv_at hl 3 rfl) ?_
    refine g_callV (wr := []) (nA := 2) hC V hl.1 (m_takes_f l D T p2_1 o lo hi w0 g1 g2 g3 g4 tp sz w13 w14 g15 w16 g17 w18 w19 g20 w21 g22 g23 g24 w25 w26 w27 g28 g29 w30 g31 g32 g33 ft (by first | assumption | omega) (by first | assumption | omega)) w_1059 w_1061 w_s42 w_9 w_1062 (by decide +kernel) rfl ⟨(Nat.le_of_ble_eq_true rfl), (Nat.le_of_ble_eq_true rfl)⟩ 0 (ci := 8) rfl rfl [0, 1] [] rfl rfl rfl rfl (by decide) (Nat.le_of_ble_eq_true rfl) dX8_takesIf_11 ⟨(Nat.le_of_ble_eq_true rfl), (Nat.le_of_ble_eq_true rfl)⟩ rfl (fun r w1 H locs hQ V => ?_)
    obtain ⟨p2_6, rfl, rfl, f_7⟩ := hQ
    have V : gW D T A s [(o, .inr (8, [.int w0, .ref g1, .ref g2, .ref g3, .ref g4, .int (nI tp), .int (nI p2_6.1), .int (nI p2_6.2.1), .int (nI sz), .int (nI p2_6.2.2.1), .int p2_6.2.2.2.1, .int (nI p2_6.2.2.2.2.1), .int p2_6.2.2.2.2.2, .int w13, .int w14, .ref g15, .int w16, .ref g17, .int w18, .int w19, .ref g20, .int w21, .ref g22, .ref g23, .ref g24, .int w25, .int w26, .int w27, .ref g28, .ref g29, .int w30, .ref g31, .ref g32, .ref g33])), (g3, .inl (T 0, 900, .inl ft))] H locs := V
    show W p l e _ s m args below meth c H locs _ _ _ (F0 m 14 ls [.int p2_1.2.2.2.1])
    refine lv_goto (tgt := 19) hx hb dX8_takesIf_14 (by decide) ?_
    exact g_iret (Qr := (q_m_takesIf_f T ps o k lo hi wo w0 g1 g2 g3 g4 tp sz w13 w14 g15 w16 g17 w18 w19 g20 w21 g22 g23 g24 w25 w26 w27 g28 g29 w30 g31 g32 g33 ft)) hC V ⟨(Nat.le_of_ble_eq_true rfl), (Nat.le_of_ble_eq_true rfl)⟩ ⟨p2_1.2.2.2.1, p2_6, rfl, rfl, (by rw [tv_y f_3 f_4, f_2]), (by rw [f_7, ti_y f_3 f_4, f_2])⟩ dX8_takesIf_19
  · have V : gW D T A s [(o, .inr (8, [.int w0, .ref g1, .ref g2, .ref g3, .ref g4, .int (nI tp), .int (nI ps.1), .int (nI ps.2.1), .int (nI sz), .int (nI ps.2.2.1), .int ps.2.2.2.1, .int (nI ps.2.2.2.2.1), .int ps.2.2.2.2.2, .int w13, .int w14, .ref g15, .int w16, .ref g17, .int w18, .int w19, .ref g20, .int w21, .ref g22, .ref g23, .ref g24, .int w25, .int w26, .int w27, .ref g28, .ref g29, .int w30, .ref g31, .ref g32, .ref g33])), (g3, .inl (T 0, 900, .inl ft))] H locs := V
    show W p l e _ s m args below meth c H locs _ _ _ (F0 m 5 ls [.int (nI 0)])
    refine lv_if_eq (tgt := 17) hx hb dX8_takesIf_5 (by decide) (fun _ => ?_) (fun c => absurd (show (nI 0) = 0 by decide +kernel) c)
    refine lv_iload hx hb dX8_takesIf_17 (lv_at hl 4 rfl) ?_
    exact g_iret (Qr := (q_m_takesIf_f T ps o k lo hi wo w0 g1 g2 g3 g4 tp sz w13 w14 g15 w16 g17 w18 w19 g20 w21 g22 g23 g24 w25 w26 w27 g28 g29 w30 g31 g32 g33 ft)) hC V ⟨(Nat.le_of_ble_eq_true rfl), (Nat.le_of_ble_eq_true rfl)⟩ ⟨wo, ps, rfl, rfl, (tv_n f_5).symm, (ti_n f_5).symm⟩ dX8_takesIf_19

def q_m_readSmith_f (T : Nat → ClassId) (ps : PS) (n : Nat) (o : Nat) (w0 : Int32) (g1 : Nat) (g2 : Nat) (g3 : Nat) (g4 : Nat) (tp : Nat) (sz : Nat) (w13 : Int32) (w14 : Int32) (g15 : Nat) (w16 : Int32) (g17 : Nat) (w18 : Int32) (w19 : Int32) (g20 : Nat) (w21 : Int32) (g22 : Nat) (g23 : Nat) (g24 : Nat) (w25 : Int32) (w26 : Int32) (w27 : Int32) (g28 : Nat) (g29 : Nat) (w30 : Int32) (g31 : Nat) (g32 : Nat) (g33 : Nat) (ft : Nat → Int32) (ff : Nat → Int32) : Option Value → va_W → Prop := fun rr ww => (∃ (p2 : PS) (gf : Nat → Int32), rr = none ∧ ww = [(o, .inr (8, [.int w0, .ref g1, .ref g2, .ref g3, .ref g4, .int (nI tp), .int (nI p2.1), .int (nI p2.2.1), .int (nI sz), .int (nI p2.2.2.1), .int p2.2.2.2.1, .int (nI p2.2.2.2.2.1), .int p2.2.2.2.2.2, .int w13, .int w14, .ref g15, .int w16, .ref g17, .int w18, .int w19, .ref g20, .int w21, .ref g22, .ref g23, .ref g24, .int w25, .int w26, .int w27, .ref g28, .ref g29, .int w30, .ref g31, .ref g32, .ref g33])), (g3, .inl (T 0, 900, .inl ft)), (g4, .inl (T 0, 94, .inl gf))] ∧ p2 = smS ft sz n ps ∧ gf = smF ft sz n ps ff)
set_option maxHeartbeats 4000000 in
set_option maxRecDepth 100000 in
theorem m_readSmith_f (l : Launch) (D : va_G) (T : Nat → ClassId) (ps : PS) (n : Nat) (o : Nat) (w0 : Int32) (g1 : Nat) (g2 : Nat) (g3 : Nat) (g4 : Nat) (tp : Nat) (sz : Nat) (w13 : Int32) (w14 : Int32) (g15 : Nat) (w16 : Int32) (g17 : Nat) (w18 : Int32) (w19 : Int32) (g20 : Nat) (w21 : Int32) (g22 : Nat) (g23 : Nat) (g24 : Nat) (w25 : Int32) (w26 : Int32) (w27 : Int32) (g28 : Nat) (g29 : Nat) (w30 : Int32) (g31 : Nat) (g32 : Nat) (g33 : Nat) (ft : Nat → Int32) (ff : Nat → Int32) (h_sz : sz ≤ 900) (h_p : PI ft sz ps) (h_fr : FR n ff) (h_0 : ps.2.2.2.2.1 = 0) : Ct l yX8_readSmith cX8_readSmith 8 none 8 0 0 D T [.ref o] [(o, .inr (8, [.int w0, .ref g1, .ref g2, .ref g3, .ref g4, .int (nI tp), .int (nI ps.1), .int (nI ps.2.1), .int (nI sz), .int (nI ps.2.2.1), .int ps.2.2.2.1, .int (nI ps.2.2.2.2.1), .int ps.2.2.2.2.2, .int w13, .int w14, .ref g15, .int w16, .ref g17, .int w18, .int w19, .ref g20, .int w21, .ref g22, .ref g23, .ref g24, .int w25, .int w26, .int w27, .ref g28, .ref g29, .int w30, .ref g31, .ref g32, .ref g33])), (g3, .inl (T 0, 900, .inl ft)), (g4, .inl (T 0, 94, .inl ff))] (q_m_readSmith_f T ps n o w0 g1 g2 g3 g4 tp sz w13 w14 g15 w16 g17 w18 w19 g20 w21 g22 g23 g24 w25 w26 w27 g28 g29 w30 g31 g32 g33 ft ff) := by
  refine Ct.of (cc := cX8_readSmith) (maxL := 8) (ret := none) (by decide) (Nat.le_of_ble_eq_true rfl) ?_
  intro p e s m args below meth c A ls hC hnm V hl
  obtain ⟨hx, hb, hr, hml, hown, hts, hlocks⟩ := id hC
  generalize hH : s.heap = H at V ⊢
  clear hH
  have hl : lv_has ls 8 [(0, .ref o)] := hl
  generalize hlo : ([] : List Loc) = locs at V ⊢
  clear hlo
  have hn10 := h_fr.1
  obtain ⟨_, _, _, _, -⟩ := id h_p
  refine lv_aload_n hx hb dX8_readSmith_0 rfl (lv_at hl 0 rfl) ?_
  refine g_get hC V (ci := 8) uwX8 0 rfl rfl 4 (by decide) w_916 rfl rfl dX8_readSmith_1 ?_
  refine lv_iconst (v := (nI 0)) hx hb dX8_readSmith_4 (by decide +kernel) ?_
  refine g_iald hC V 2 rfl (vp_in_nI (by decide) (by decide)) (v := (nI n)) (by rw [nI_clamp (by decide)]; first | rfl | exact h_fr.2.1) dX8_readSmith_5 ?_
  refine lv_istore_n (lv' := [(1, .int (nI n)), (0, .ref o)]) hx hb dX8_readSmith_6 rfl hl (by decide) rfl (fun ls hl => ?_)
  refine lv_iload_n hx hb dX8_readSmith_7 rfl (lv_at hl 0 rfl) ?_
  refine lv_bipush (v := (nI 10)) hx hb dX8_readSmith_8 (by decide +kernel) ?_
  refine lv_icmp_ne (tgt := 18) hx hb dX8_readSmith_10 (by decide) (fun c_1 => ?_) (fun c_1 => ?_)
  · skip
    have c_1 := b_ne (by omega) (by omega) c_1
    refine lv_aload_n hx hb dX8_readSmith_18 rfl (lv_at hl 1 rfl) ?_
    refine g_get hC V (ci := 8) uwX8 0 rfl rfl 11 (by decide) w_923 rfl rfl dX8_readSmith_19 ?_
    refine lv_if_eq (tgt := 26) hx hb dX8_readSmith_22 (by decide) (fun c_2 => ?_) (fun c_2 => ?_)
    · skip
      rw [show (0 : Int32) = nI 0 from rfl] at c_2
      have c_2 := b_eq (by omega) (by omega) c_2
      refine lv_aload_n hx hb dX8_readSmith_26 rfl (lv_at hl 1 rfl) ?_
      refine g_callVU (nA := 0) hC V hl.1 (m_next_f l D T o w0 g1 g2 g3 g4 tp (nI ps.1) ps.2.1 sz (nI ps.2.2.1) ps.2.2.2.1 ps.2.2.2.2.1 ps.2.2.2.2.2 w13 w14 g15 w16 g17 w18 w19 g20 w21 g22 g23 g24 w25 w26 w27 g28 g29 w30 g31 g32 g33 ft (by first | assumption | omega) (by first | assumption | omega) (by first | assumption | omega)) w_1026 w_1028 w_s36 w_9 w_1029 (by decide +kernel) rfl ⟨(Nat.le_of_ble_eq_true rfl), (Nat.le_of_ble_eq_true rfl)⟩ 0 (ci := 8) rfl rfl [0, 1] rfl rfl (Nat.le_of_ble_eq_true rfl) dX8_readSmith_27 ⟨(Nat.le_of_ble_eq_true rfl), (Nat.le_of_ble_eq_true rfl)⟩ rfl (fun r w1 H locs hQ V => ?_)
      obtain ⟨p2_3, rfl, rfl, f_4⟩ := hQ
      have V : gW D T A s [(o, .inr (8, [.int w0, .ref g1, .ref g2, .ref g3, .ref g4, .int (nI tp), .int (nI p2_3.1), .int (nI p2_3.2.1), .int (nI sz), .int (nI p2_3.2.2.1), .int p2_3.2.2.2.1, .int (nI p2_3.2.2.2.2.1), .int p2_3.2.2.2.2.2, .int w13, .int w14, .ref g15, .int w16, .ref g17, .int w18, .int w19, .ref g20, .int w21, .ref g22, .ref g23, .ref g24, .int w25, .int w26, .int w27, .ref g28, .ref g29, .int w30, .ref g31, .ref g32, .ref g33])), (g3, .inl (T 0, 900, .inl ft)), (g4, .inl (T 0, 94, .inl ff))] H locs := V _ [0, 0] rfl rfl rfl (by decide +kernel) rfl
      show W p l e _ s m args below meth c H locs _ _ _ (F0 m 30 ls [])
      have e0 : p2_3 = nxS ft sz ps := f_4
      have hq0 : PI ft sz p2_3 := by rw [e0]; exact PI_nxI h_p
      obtain ⟨_, _, _, _, -⟩ := id hq0
      have v1 : p2_3.2.2.2.1 = smBl ft sz ps := by rw [e0]; rfl
      refine lv_aload_n hx hb dX8_readSmith_30 rfl (lv_at hl 1 rfl) ?_
      refine lv_iconst (v := (nI 0)) hx hb dX8_readSmith_31 (by decide +kernel) ?_
      refine lv_bipush (v := (nI 60)) hx hb dX8_readSmith_32 (by decide +kernel) ?_
      refine g_callVU (nA := 2) hC V hl.1 (m_takes_f l D T p2_3 o (nI 0) (nI 60) w0 g1 g2 g3 g4 tp sz w13 w14 g15 w16 g17 w18 w19 g20 w21 g22 g23 g24 w25 w26 w27 g28 g29 w30 g31 g32 g33 ft (by first | assumption | omega) (by first | assumption | omega)) w_1059 w_1061 w_s42 w_9 w_1062 (by decide +kernel) rfl ⟨(Nat.le_of_ble_eq_true rfl), (Nat.le_of_ble_eq_true rfl)⟩ 0 (ci := 8) rfl rfl [0, 1] rfl rfl (Nat.le_of_ble_eq_true rfl) dX8_readSmith_34 ⟨(Nat.le_of_ble_eq_true rfl), (Nat.le_of_ble_eq_true rfl)⟩ rfl (fun r w1 H locs hQ V => ?_)
      obtain ⟨p2_5, rfl, rfl, f_6⟩ := hQ
      have V : gW D T A s [(o, .inr (8, [.int w0, .ref g1, .ref g2, .ref g3, .ref g4, .int (nI tp), .int (nI p2_5.1), .int (nI p2_5.2.1), .int (nI sz), .int (nI p2_5.2.2.1), .int p2_5.2.2.2.1, .int (nI p2_5.2.2.2.2.1), .int p2_5.2.2.2.2.2, .int w13, .int w14, .ref g15, .int w16, .ref g17, .int w18, .int w19, .ref g20, .int w21, .ref g22, .ref g23, .ref g24, .int w25, .int w26, .int w27, .ref g28, .ref g29, .int w30, .ref g31, .ref g32, .ref g33])), (g3, .inl (T 0, 900, .inl ft)), (g4, .inl (T 0, 94, .inl ff))] H locs := V _ [0, 0] rfl rfl rfl (by decide +kernel) rfl
      show W p l e _ s m args below meth c H locs _ _ _ (F0 m 37 ls [.int p2_3.2.2.2.1])
      have e1 : p2_5 = sm1 ft sz ps := by rw [f_6, e0]; rfl
      have hq1 : PI ft sz p2_5 := by rw [f_6]; exact PI_tk hq0
      obtain ⟨_, _, _, _, -⟩ := id hq1
      refine lv_istore_n (lv' := [(2, .int p2_3.2.2.2.1), (1, .int (nI n)), (0, .ref o)]) hx hb dX8_readSmith_37 rfl hl (by decide) rfl (fun ls hl => ?_)
      refine lv_aload_n hx hb dX8_readSmith_38 rfl (lv_at hl 2 rfl) ?_
      refine lv_iconst (v := (nI 1)) hx hb dX8_readSmith_39 (by decide +kernel) ?_
      refine lv_iconst (v := (nI 0)) hx hb dX8_readSmith_40 (by decide +kernel) ?_
      refine lv_bipush (v := (nI 30)) hx hb dX8_readSmith_41 (by decide +kernel) ?_
      refine lv_iconst (v := (nI 5)) hx hb dX8_readSmith_43 (by decide +kernel) ?_
      refine g_callVU (nA := 4) hC V hl.1 (m_takesIf_f l D T p2_5 o 1 (nI 0) (nI 30) (nI 5) w0 g1 g2 g3 g4 tp sz w13 w14 g15 w16 g17 w18 w19 g20 w21 g22 g23 g24 w25 w26 w27 g28 g29 w30 g31 g32 g33 ft (by first | assumption | omega) (by first | assumption | omega) (by first | assumption | omega)) w_1063 w_1065 w_s43 w_9 w_1066 (by decide +kernel) rfl ⟨(Nat.le_of_ble_eq_true rfl), (Nat.le_of_ble_eq_true rfl)⟩ 0 (ci := 8) rfl rfl [0, 1] rfl rfl (Nat.le_of_ble_eq_true rfl) dX8_readSmith_44 ⟨(Nat.le_of_ble_eq_true rfl), (Nat.le_of_ble_eq_true rfl)⟩ rfl (fun r w1 H locs hQ V => ?_)
      obtain ⟨z_7, p2_8, rfl, rfl, f_9, f_10⟩ := hQ
      have V : gW D T A s [(o, .inr (8, [.int w0, .ref g1, .ref g2, .ref g3, .ref g4, .int (nI tp), .int (nI p2_8.1), .int (nI p2_8.2.1), .int (nI sz), .int (nI p2_8.2.2.1), .int p2_8.2.2.2.1, .int (nI p2_8.2.2.2.2.1), .int p2_8.2.2.2.2.2, .int w13, .int w14, .ref g15, .int w16, .ref g17, .int w18, .int w19, .ref g20, .int w21, .ref g22, .ref g23, .ref g24, .int w25, .int w26, .int w27, .ref g28, .ref g29, .int w30, .ref g31, .ref g32, .ref g33])), (g3, .inl (T 0, 900, .inl ft)), (g4, .inl (T 0, 94, .inl ff))] H locs := V _ [0, 0] rfl rfl rfl (by decide +kernel) rfl
      show W p l e _ s m args below meth c H locs _ _ _ (F0 m 47 ls [.int z_7])
      have v2 : z_7 = smCo ft sz ps := by rw [f_9, e1]; rfl
      have e2 : p2_8 = sm2 ft sz ps := by rw [f_10, e1]; rfl
      have hq2 : PI ft sz p2_8 := by rw [f_10]; exact PI_ti hq1
      obtain ⟨_, _, _, _, -⟩ := id hq2
      refine lv_istore_n (lv' := [(3, .int z_7), (2, .int p2_3.2.2.2.1), (1, .int (nI n)), (0, .ref o)]) hx hb dX8_readSmith_47 rfl hl (by decide) rfl (fun ls hl => ?_)
      refine lv_aload_n hx hb dX8_readSmith_48 rfl (lv_at hl 3 rfl) ?_
      refine lv_iconst (v := (nI 2)) hx hb dX8_readSmith_49 (by decide +kernel) ?_
      refine lv_iconst (v := (nI 0)) hx hb dX8_readSmith_50 (by decide +kernel) ?_
      refine lv_sipush (v := (nI 200)) hx hb dX8_readSmith_51 (by decide +kernel) ?_
      refine lv_iconst (v := (nI 0)) hx hb dX8_readSmith_54 (by decide +kernel) ?_
      refine g_callVU (nA := 4) hC V hl.1 (m_takesIf_f l D T p2_8 o 2 (nI 0) (nI 200) (nI 0) w0 g1 g2 g3 g4 tp sz w13 w14 g15 w16 g17 w18 w19 g20 w21 g22 g23 g24 w25 w26 w27 g28 g29 w30 g31 g32 g33 ft (by first | assumption | omega) (by first | assumption | omega) (by first | assumption | omega)) w_1063 w_1065 w_s43 w_9 w_1066 (by decide +kernel) rfl ⟨(Nat.le_of_ble_eq_true rfl), (Nat.le_of_ble_eq_true rfl)⟩ 0 (ci := 8) rfl rfl [0, 1] rfl rfl (Nat.le_of_ble_eq_true rfl) dX8_readSmith_55 ⟨(Nat.le_of_ble_eq_true rfl), (Nat.le_of_ble_eq_true rfl)⟩ rfl (fun r w1 H locs hQ V => ?_)
      obtain ⟨z_11, p2_12, rfl, rfl, f_13, f_14⟩ := hQ
      have V : gW D T A s [(o, .inr (8, [.int w0, .ref g1, .ref g2, .ref g3, .ref g4, .int (nI tp), .int (nI p2_12.1), .int (nI p2_12.2.1), .int (nI sz), .int (nI p2_12.2.2.1), .int p2_12.2.2.2.1, .int (nI p2_12.2.2.2.2.1), .int p2_12.2.2.2.2.2, .int w13, .int w14, .ref g15, .int w16, .ref g17, .int w18, .int w19, .ref g20, .int w21, .ref g22, .ref g23, .ref g24, .int w25, .int w26, .int w27, .ref g28, .ref g29, .int w30, .ref g31, .ref g32, .ref g33])), (g3, .inl (T 0, 900, .inl ft)), (g4, .inl (T 0, 94, .inl ff))] H locs := V _ [0, 0] rfl rfl rfl (by decide +kernel) rfl
      show W p l e _ s m args below meth c H locs _ _ _ (F0 m 58 ls [.int z_11])
      have v3 : z_11 = smHe ft sz ps := by rw [f_13, e2]; rfl
      have e3 : p2_12 = sm3 ft sz ps := by rw [f_14, e2]; rfl
      have hq3 : PI ft sz p2_12 := by rw [f_14]; exact PI_ti hq2
      obtain ⟨_, _, _, _, -⟩ := id hq3
      refine lv_istore (lv' := [(4, .int z_11), (3, .int z_7), (2, .int p2_3.2.2.2.1), (1, .int (nI n)), (0, .ref o)]) hx hb dX8_readSmith_58 hl (by decide) rfl (fun ls hl => ?_)
      refine lv_aload_n hx hb dX8_readSmith_60 rfl (lv_at hl 4 rfl) ?_
      refine lv_iconst (v := (nI 3)) hx hb dX8_readSmith_61 (by decide +kernel) ?_
      refine lv_iconst (v := (nI 0)) hx hb dX8_readSmith_62 (by decide +kernel) ?_
      refine lv_sipush (v := (nI 200)) hx hb dX8_readSmith_63 (by decide +kernel) ?_
      refine lv_bipush (v := (nI 20)) hx hb dX8_readSmith_66 (by decide +kernel) ?_
      refine g_callVU (nA := 4) hC V hl.1 (m_takesIf_f l D T p2_12 o 3 (nI 0) (nI 200) (nI 20) w0 g1 g2 g3 g4 tp sz w13 w14 g15 w16 g17 w18 w19 g20 w21 g22 g23 g24 w25 w26 w27 g28 g29 w30 g31 g32 g33 ft (by first | assumption | omega) (by first | assumption | omega) (by first | assumption | omega)) w_1063 w_1065 w_s43 w_9 w_1066 (by decide +kernel) rfl ⟨(Nat.le_of_ble_eq_true rfl), (Nat.le_of_ble_eq_true rfl)⟩ 0 (ci := 8) rfl rfl [0, 1] rfl rfl (Nat.le_of_ble_eq_true rfl) dX8_readSmith_68 ⟨(Nat.le_of_ble_eq_true rfl), (Nat.le_of_ble_eq_true rfl)⟩ rfl (fun r w1 H locs hQ V => ?_)
      obtain ⟨z_15, p2_16, rfl, rfl, f_17, f_18⟩ := hQ
      have V : gW D T A s [(o, .inr (8, [.int w0, .ref g1, .ref g2, .ref g3, .ref g4, .int (nI tp), .int (nI p2_16.1), .int (nI p2_16.2.1), .int (nI sz), .int (nI p2_16.2.2.1), .int p2_16.2.2.2.1, .int (nI p2_16.2.2.2.2.1), .int p2_16.2.2.2.2.2, .int w13, .int w14, .ref g15, .int w16, .ref g17, .int w18, .int w19, .ref g20, .int w21, .ref g22, .ref g23, .ref g24, .int w25, .int w26, .int w27, .ref g28, .ref g29, .int w30, .ref g31, .ref g32, .ref g33])), (g3, .inl (T 0, 900, .inl ft)), (g4, .inl (T 0, 94, .inl ff))] H locs := V _ [0, 0] rfl rfl rfl (by decide +kernel) rfl
      show W p l e _ s m args below meth c H locs _ _ _ (F0 m 71 ls [.int z_15])
      have v4 : z_15 = smLo ft sz ps := by rw [f_17, e3]; rfl
      have e4 : p2_16 = sm4 ft sz ps := by rw [f_18, e3]; rfl
      have hq4 : PI ft sz p2_16 := by rw [f_18]; exact PI_ti hq3
      obtain ⟨_, _, _, _, -⟩ := id hq4
      refine lv_istore (lv' := [(5, .int z_15), (4, .int z_11), (3, .int z_7), (2, .int p2_3.2.2.2.1), (1, .int (nI n)), (0, .ref o)]) hx hb dX8_readSmith_71 hl (by decide) rfl (fun ls hl => ?_)
      refine lv_aload_n hx hb dX8_readSmith_73 rfl (lv_at hl 5 rfl) ?_
      refine lv_iconst (v := (nI 4)) hx hb dX8_readSmith_74 (by decide +kernel) ?_
      refine lv_iload hx hb dX8_readSmith_75 (lv_at hl 0 rfl) ?_
      refine lv_sipush (v := (nI 200)) hx hb dX8_readSmith_77 (by decide +kernel) ?_
      refine lv_iload hx hb dX8_readSmith_80 (lv_at hl 0 rfl) ?_
      refine lv_bipush (v := (nI 100)) hx hb dX8_readSmith_82 (by decide +kernel) ?_
      refine lv_icmp_le (tgt := 92) hx hb dX8_readSmith_84 (by decide) (fun c_19 => ?_) (fun c_19 => ?_)
      · skip
        refine lv_bipush (v := (nI 100)) hx hb dX8_readSmith_92 (by decide +kernel) ?_
        refine g_callVU (nA := 4) hC V hl.1 (m_takesIf_f l D T p2_16 o 4 z_15 (nI 200) (nI 100) w0 g1 g2 g3 g4 tp sz w13 w14 g15 w16 g17 w18 w19 g20 w21 g22 g23 g24 w25 w26 w27 g28 g29 w30 g31 g32 g33 ft (by first | assumption | omega) (by first | assumption | omega) (by first | assumption | omega)) w_1063 w_1065 w_s43 w_9 w_1066 (by decide +kernel) rfl ⟨(Nat.le_of_ble_eq_true rfl), (Nat.le_of_ble_eq_true rfl)⟩ 0 (ci := 8) rfl rfl [0, 1] rfl rfl (Nat.le_of_ble_eq_true rfl) dX8_readSmith_94 ⟨(Nat.le_of_ble_eq_true rfl), (Nat.le_of_ble_eq_true rfl)⟩ rfl (fun r w1 H locs hQ V => ?_)
        obtain ⟨z_20, p2_21, rfl, rfl, f_22, f_23⟩ := hQ
        have V : gW D T A s [(o, .inr (8, [.int w0, .ref g1, .ref g2, .ref g3, .ref g4, .int (nI tp), .int (nI p2_21.1), .int (nI p2_21.2.1), .int (nI sz), .int (nI p2_21.2.2.1), .int p2_21.2.2.2.1, .int (nI p2_21.2.2.2.2.1), .int p2_21.2.2.2.2.2, .int w13, .int w14, .ref g15, .int w16, .ref g17, .int w18, .int w19, .ref g20, .int w21, .ref g22, .ref g23, .ref g24, .int w25, .int w26, .int w27, .ref g28, .ref g29, .int w30, .ref g31, .ref g32, .ref g33])), (g3, .inl (T 0, 900, .inl ft)), (g4, .inl (T 0, 94, .inl ff))] H locs := V _ [0, 0] rfl rfl rfl (by decide +kernel) rfl
        show W p l e _ s m args below meth c H locs _ _ _ (F0 m 97 ls [.int z_20])
        have v5 : z_20 = smHi ft sz ps := by rw [f_22, e4]; unfold smHi mx100; rw [← v4, if_neg (Int32.not_lt.mpr (by assumption))]
        have e5 : p2_21 = sm5 ft sz ps := by rw [f_23, e4, v4]; rfl
        have hq5 : PI ft sz p2_21 := by rw [f_23]; exact PI_ti hq4
        obtain ⟨_, _, _, _, -⟩ := id hq5
        refine lv_istore (lv' := [(6, .int z_20), (5, .int z_15), (4, .int z_11), (3, .int z_7), (2, .int p2_3.2.2.2.1), (1, .int (nI n)), (0, .ref o)]) hx hb dX8_readSmith_97 hl (by decide) rfl (fun ls hl => ?_)
        refine lv_aload_n hx hb dX8_readSmith_99 rfl (lv_at hl 6 rfl) ?_
        refine lv_iconst (v := (nI 5)) hx hb dX8_readSmith_100 (by decide +kernel) ?_
        refine lv_iconst (v := (nI 0)) hx hb dX8_readSmith_101 (by decide +kernel) ?_
        refine lv_bipush (v := (nI 20)) hx hb dX8_readSmith_102 (by decide +kernel) ?_
        refine lv_iconst (v := (nI 3)) hx hb dX8_readSmith_104 (by decide +kernel) ?_
        refine g_callVU (nA := 4) hC V hl.1 (m_takesIf_f l D T p2_21 o 5 (nI 0) (nI 20) (nI 3) w0 g1 g2 g3 g4 tp sz w13 w14 g15 w16 g17 w18 w19 g20 w21 g22 g23 g24 w25 w26 w27 g28 g29 w30 g31 g32 g33 ft (by first | assumption | omega) (by first | assumption | omega) (by first | assumption | omega)) w_1063 w_1065 w_s43 w_9 w_1066 (by decide +kernel) rfl ⟨(Nat.le_of_ble_eq_true rfl), (Nat.le_of_ble_eq_true rfl)⟩ 0 (ci := 8) rfl rfl [0, 1] rfl rfl (Nat.le_of_ble_eq_true rfl) dX8_readSmith_105 ⟨(Nat.le_of_ble_eq_true rfl), (Nat.le_of_ble_eq_true rfl)⟩ rfl (fun r w1 H locs hQ V => ?_)
        obtain ⟨z_24, p2_25, rfl, rfl, f_26, f_27⟩ := hQ
        have V : gW D T A s [(o, .inr (8, [.int w0, .ref g1, .ref g2, .ref g3, .ref g4, .int (nI tp), .int (nI p2_25.1), .int (nI p2_25.2.1), .int (nI sz), .int (nI p2_25.2.2.1), .int p2_25.2.2.2.1, .int (nI p2_25.2.2.2.2.1), .int p2_25.2.2.2.2.2, .int w13, .int w14, .ref g15, .int w16, .ref g17, .int w18, .int w19, .ref g20, .int w21, .ref g22, .ref g23, .ref g24, .int w25, .int w26, .int w27, .ref g28, .ref g29, .int w30, .ref g31, .ref g32, .ref g33])), (g3, .inl (T 0, 900, .inl ft)), (g4, .inl (T 0, 94, .inl ff))] H locs := V _ [0, 0] rfl rfl rfl (by decide +kernel) rfl
        show W p l e _ s m args below meth c H locs _ _ _ (F0 m 108 ls [.int z_24])
        have v6 : z_24 = smPi ft sz ps := by rw [f_26, e5]; rfl
        have e6 : p2_25 = sm6 ft sz ps := by rw [f_27, e5]; rfl
        have hq6 : PI ft sz p2_25 := by rw [f_27]; exact PI_ti hq5
        obtain ⟨_, _, _, _, -⟩ := id hq6
        refine lv_istore (lv' := [(7, .int z_24), (6, .int z_20), (5, .int z_15), (4, .int z_11), (3, .int z_7), (2, .int p2_3.2.2.2.1), (1, .int (nI n)), (0, .ref o)]) hx hb dX8_readSmith_108 hl (by decide) rfl (fun ls hl => ?_)
        refine lv_aload_n hx hb dX8_readSmith_110 rfl (lv_at hl 7 rfl) ?_
        refine g_get hC V (ci := 8) uwX8 0 rfl rfl 11 (by decide) w_923 rfl rfl dX8_readSmith_111 ?_
        refine lv_if_eq (tgt := 118) hx hb dX8_readSmith_114 (by decide) (fun c_28 => ?_) (fun c_28 => ?_)
        · skip
          rw [show (0 : Int32) = nI 0 from rfl] at c_28
          have c_28 := b_eq (by omega) (by omega) c_28
          refine lv_aload_n hx hb dX8_readSmith_118 rfl (lv_at hl 7 rfl) ?_
          refine g_get hC V (ci := 8) uwX8 0 rfl rfl 4 (by decide) w_916 rfl rfl dX8_readSmith_119 ?_
          refine lv_iconst (v := (nI 4)) hx hb dX8_readSmith_122 (by decide +kernel) ?_
          refine lv_iload_n hx hb dX8_readSmith_123 rfl (lv_at hl 6 rfl) ?_
          refine lv_iadd hx hb dX8_readSmith_124 ?_
          refine g_vi (y := (nI (4 + n))) (nI_add _ _) ?_
          refine lv_iload_n hx hb dX8_readSmith_125 rfl (lv_at hl 5 rfl) ?_
          refine g_iast hC V 2 rfl (vp_in_nI (by omega) (by omega)) (f' := (upd ff (4 + n) p2_3.2.2.2.1)) (by rw [nI_clamp (by omega)]) (ws' := [(o, .inr (8, [.int w0, .ref g1, .ref g2, .ref g3, .ref g4, .int (nI tp), .int (nI p2_25.1), .int (nI p2_25.2.1), .int (nI sz), .int (nI p2_25.2.2.1), .int p2_25.2.2.2.1, .int (nI p2_25.2.2.2.2.1), .int p2_25.2.2.2.2.2, .int w13, .int w14, .ref g15, .int w16, .ref g17, .int w18, .int w19, .ref g20, .int w21, .ref g22, .ref g23, .ref g24, .int w25, .int w26, .int w27, .ref g28, .ref g29, .int w30, .ref g31, .ref g32, .ref g33])), (g3, .inl (T 0, 900, .inl ft)), (g4, .inl (T 0, 94, .inl (upd ff (4 + n) p2_3.2.2.2.1)))]) rfl dX8_readSmith_126 (fun H locs V => ?_)
          refine lv_aload_n hx hb dX8_readSmith_127 rfl (lv_at hl 7 rfl) ?_
          refine g_get hC V (ci := 8) uwX8 0 rfl rfl 4 (by decide) w_916 rfl rfl dX8_readSmith_128 ?_
          refine lv_bipush (v := (nI 14)) hx hb dX8_readSmith_131 (by decide +kernel) ?_
          refine lv_iload_n hx hb dX8_readSmith_133 rfl (lv_at hl 6 rfl) ?_
          refine lv_iadd hx hb dX8_readSmith_134 ?_
          refine g_vi (y := (nI (14 + n))) (nI_add _ _) ?_
          refine lv_iload_n hx hb dX8_readSmith_135 rfl (lv_at hl 4 rfl) ?_
          refine g_iast hC V 2 rfl (vp_in_nI (by omega) (by omega)) (f' := (upd (upd ff (4 + n) p2_3.2.2.2.1) (14 + n) z_7)) (by rw [nI_clamp (by omega)]) (ws' := [(o, .inr (8, [.int w0, .ref g1, .ref g2, .ref g3, .ref g4, .int (nI tp), .int (nI p2_25.1), .int (nI p2_25.2.1), .int (nI sz), .int (nI p2_25.2.2.1), .int p2_25.2.2.2.1, .int (nI p2_25.2.2.2.2.1), .int p2_25.2.2.2.2.2, .int w13, .int w14, .ref g15, .int w16, .ref g17, .int w18, .int w19, .ref g20, .int w21, .ref g22, .ref g23, .ref g24, .int w25, .int w26, .int w27, .ref g28, .ref g29, .int w30, .ref g31, .ref g32, .ref g33])), (g3, .inl (T 0, 900, .inl ft)), (g4, .inl (T 0, 94, .inl (upd (upd ff (4 + n) p2_3.2.2.2.1) (14 + n) z_7)))]) rfl dX8_readSmith_136 (fun H locs V => ?_)
          refine lv_aload_n hx hb dX8_readSmith_137 rfl (lv_at hl 7 rfl) ?_
          refine g_get hC V (ci := 8) uwX8 0 rfl rfl 4 (by decide) w_916 rfl rfl dX8_readSmith_138 ?_
          refine lv_bipush (v := (nI 24)) hx hb dX8_readSmith_141 (by decide +kernel) ?_
          refine lv_iload_n hx hb dX8_readSmith_143 rfl (lv_at hl 6 rfl) ?_
          refine lv_iadd hx hb dX8_readSmith_144 ?_
          refine g_vi (y := (nI (24 + n))) (nI_add _ _) ?_
          refine lv_iload hx hb dX8_readSmith_145 (lv_at hl 3 rfl) ?_
          refine g_iast hC V 2 rfl (vp_in_nI (by omega) (by omega)) (f' := (upd (upd (upd ff (4 + n) p2_3.2.2.2.1) (14 + n) z_7) (24 + n) z_11)) (by rw [nI_clamp (by omega)]) (ws' := [(o, .inr (8, [.int w0, .ref g1, .ref g2, .ref g3, .ref g4, .int (nI tp), .int (nI p2_25.1), .int (nI p2_25.2.1), .int (nI sz), .int (nI p2_25.2.2.1), .int p2_25.2.2.2.1, .int (nI p2_25.2.2.2.2.1), .int p2_25.2.2.2.2.2, .int w13, .int w14, .ref g15, .int w16, .ref g17, .int w18, .int w19, .ref g20, .int w21, .ref g22, .ref g23, .ref g24, .int w25, .int w26, .int w27, .ref g28, .ref g29, .int w30, .ref g31, .ref g32, .ref g33])), (g3, .inl (T 0, 900, .inl ft)), (g4, .inl (T 0, 94, .inl (upd (upd (upd ff (4 + n) p2_3.2.2.2.1) (14 + n) z_7) (24 + n) z_11)))]) rfl dX8_readSmith_147 (fun H locs V => ?_)
          refine lv_aload_n hx hb dX8_readSmith_148 rfl (lv_at hl 7 rfl) ?_
          refine g_get hC V (ci := 8) uwX8 0 rfl rfl 4 (by decide) w_916 rfl rfl dX8_readSmith_149 ?_
          refine lv_bipush (v := (nI 34)) hx hb dX8_readSmith_152 (by decide +kernel) ?_
          refine lv_iload_n hx hb dX8_readSmith_154 rfl (lv_at hl 6 rfl) ?_
          refine lv_iadd hx hb dX8_readSmith_155 ?_
          refine g_vi (y := (nI (34 + n))) (nI_add _ _) ?_
          refine lv_iload hx hb dX8_readSmith_156 (lv_at hl 2 rfl) ?_
          refine g_iast hC V 2 rfl (vp_in_nI (by omega) (by omega)) (f' := (upd (upd (upd (upd ff (4 + n) p2_3.2.2.2.1) (14 + n) z_7) (24 + n) z_11) (34 + n) z_15)) (by rw [nI_clamp (by omega)]) (ws' := [(o, .inr (8, [.int w0, .ref g1, .ref g2, .ref g3, .ref g4, .int (nI tp), .int (nI p2_25.1), .int (nI p2_25.2.1), .int (nI sz), .int (nI p2_25.2.2.1), .int p2_25.2.2.2.1, .int (nI p2_25.2.2.2.2.1), .int p2_25.2.2.2.2.2, .int w13, .int w14, .ref g15, .int w16, .ref g17, .int w18, .int w19, .ref g20, .int w21, .ref g22, .ref g23, .ref g24, .int w25, .int w26, .int w27, .ref g28, .ref g29, .int w30, .ref g31, .ref g32, .ref g33])), (g3, .inl (T 0, 900, .inl ft)), (g4, .inl (T 0, 94, .inl (upd (upd (upd (upd ff (4 + n) p2_3.2.2.2.1) (14 + n) z_7) (24 + n) z_11) (34 + n) z_15)))]) rfl dX8_readSmith_158 (fun H locs V => ?_)
          refine lv_aload_n hx hb dX8_readSmith_159 rfl (lv_at hl 7 rfl) ?_
          refine g_get hC V (ci := 8) uwX8 0 rfl rfl 4 (by decide) w_916 rfl rfl dX8_readSmith_160 ?_
          refine lv_bipush (v := (nI 44)) hx hb dX8_readSmith_163 (by decide +kernel) ?_
          refine lv_iload_n hx hb dX8_readSmith_165 rfl (lv_at hl 6 rfl) ?_
          refine lv_iadd hx hb dX8_readSmith_166 ?_
          refine g_vi (y := (nI (44 + n))) (nI_add _ _) ?_
          refine lv_iload hx hb dX8_readSmith_167 (lv_at hl 1 rfl) ?_
          refine g_iast hC V 2 rfl (vp_in_nI (by omega) (by omega)) (f' := (upd (upd (upd (upd (upd ff (4 + n) p2_3.2.2.2.1) (14 + n) z_7) (24 + n) z_11) (34 + n) z_15) (44 + n) z_20)) (by rw [nI_clamp (by omega)]) (ws' := [(o, .inr (8, [.int w0, .ref g1, .ref g2, .ref g3, .ref g4, .int (nI tp), .int (nI p2_25.1), .int (nI p2_25.2.1), .int (nI sz), .int (nI p2_25.2.2.1), .int p2_25.2.2.2.1, .int (nI p2_25.2.2.2.2.1), .int p2_25.2.2.2.2.2, .int w13, .int w14, .ref g15, .int w16, .ref g17, .int w18, .int w19, .ref g20, .int w21, .ref g22, .ref g23, .ref g24, .int w25, .int w26, .int w27, .ref g28, .ref g29, .int w30, .ref g31, .ref g32, .ref g33])), (g3, .inl (T 0, 900, .inl ft)), (g4, .inl (T 0, 94, .inl (upd (upd (upd (upd (upd ff (4 + n) p2_3.2.2.2.1) (14 + n) z_7) (24 + n) z_11) (34 + n) z_15) (44 + n) z_20)))]) rfl dX8_readSmith_169 (fun H locs V => ?_)
          refine lv_aload_n hx hb dX8_readSmith_170 rfl (lv_at hl 7 rfl) ?_
          refine g_get hC V (ci := 8) uwX8 0 rfl rfl 4 (by decide) w_916 rfl rfl dX8_readSmith_171 ?_
          refine lv_bipush (v := (nI 54)) hx hb dX8_readSmith_174 (by decide +kernel) ?_
          refine lv_iload_n hx hb dX8_readSmith_176 rfl (lv_at hl 6 rfl) ?_
          refine lv_iadd hx hb dX8_readSmith_177 ?_
          refine g_vi (y := (nI (54 + n))) (nI_add _ _) ?_
          refine lv_iload hx hb dX8_readSmith_178 (lv_at hl 0 rfl) ?_
          refine g_iast hC V 2 rfl (vp_in_nI (by omega) (by omega)) (f' := (upd (upd (upd (upd (upd (upd ff (4 + n) p2_3.2.2.2.1) (14 + n) z_7) (24 + n) z_11) (34 + n) z_15) (44 + n) z_20) (54 + n) z_24)) (by rw [nI_clamp (by omega)]) (ws' := [(o, .inr (8, [.int w0, .ref g1, .ref g2, .ref g3, .ref g4, .int (nI tp), .int (nI p2_25.1), .int (nI p2_25.2.1), .int (nI sz), .int (nI p2_25.2.2.1), .int p2_25.2.2.2.1, .int (nI p2_25.2.2.2.2.1), .int p2_25.2.2.2.2.2, .int w13, .int w14, .ref g15, .int w16, .ref g17, .int w18, .int w19, .ref g20, .int w21, .ref g22, .ref g23, .ref g24, .int w25, .int w26, .int w27, .ref g28, .ref g29, .int w30, .ref g31, .ref g32, .ref g33])), (g3, .inl (T 0, 900, .inl ft)), (g4, .inl (T 0, 94, .inl (upd (upd (upd (upd (upd (upd ff (4 + n) p2_3.2.2.2.1) (14 + n) z_7) (24 + n) z_11) (34 + n) z_15) (44 + n) z_20) (54 + n) z_24)))]) rfl dX8_readSmith_180 (fun H locs V => ?_)
          refine lv_aload_n hx hb dX8_readSmith_181 rfl (lv_at hl 7 rfl) ?_
          refine g_get hC V (ci := 8) uwX8 0 rfl rfl 4 (by decide) w_916 rfl rfl dX8_readSmith_182 ?_
          refine lv_iconst (v := (nI 0)) hx hb dX8_readSmith_185 (by decide +kernel) ?_
          refine lv_dup2_11 hx hb dX8_readSmith_186 rfl rfl ?_
          refine g_iald hC V 2 rfl (vp_in_nI (by decide) (by decide)) (v := (nI n)) (by rw [nI_clamp (by decide), up_other (by omega), up_other (by omega), up_other (by omega), up_other (by omega), up_other (by omega), up_other (by omega)]; exact h_fr.2.1) dX8_readSmith_187 ?_
          refine lv_iconst (v := (nI 1)) hx hb dX8_readSmith_188 (by decide +kernel) ?_
          refine lv_iadd hx hb dX8_readSmith_189 ?_
          refine g_vi (y := (nI (n + 1))) (nI_add _ _) ?_
          refine g_iast hC V 2 rfl (vp_in_nI (by decide) (by decide)) (f' := (upd (upd (upd (upd (upd (upd (upd ff (4 + n) p2_3.2.2.2.1) (14 + n) z_7) (24 + n) z_11) (34 + n) z_15) (44 + n) z_20) (54 + n) z_24) 0 (nI (n + 1)))) (by rw [nI_clamp (by decide)]) (ws' := [(o, .inr (8, [.int w0, .ref g1, .ref g2, .ref g3, .ref g4, .int (nI tp), .int (nI p2_25.1), .int (nI p2_25.2.1), .int (nI sz), .int (nI p2_25.2.2.1), .int p2_25.2.2.2.1, .int (nI p2_25.2.2.2.2.1), .int p2_25.2.2.2.2.2, .int w13, .int w14, .ref g15, .int w16, .ref g17, .int w18, .int w19, .ref g20, .int w21, .ref g22, .ref g23, .ref g24, .int w25, .int w26, .int w27, .ref g28, .ref g29, .int w30, .ref g31, .ref g32, .ref g33])), (g3, .inl (T 0, 900, .inl ft)), (g4, .inl (T 0, 94, .inl (upd (upd (upd (upd (upd (upd (upd ff (4 + n) p2_3.2.2.2.1) (14 + n) z_7) (24 + n) z_11) (34 + n) z_15) (44 + n) z_20) (54 + n) z_24) 0 (nI (n + 1)))))]) rfl dX8_readSmith_190 (fun H locs V => ?_)
          exact g_vret (Qr := (q_m_readSmith_f T ps n o w0 g1 g2 g3 g4 tp sz w13 w14 g15 w16 g17 w18 w19 g20 w21 g22 g23 g24 w25 w26 w27 g28 g29 w30 g31 g32 g33 ft ff)) hC V ⟨(Nat.le_of_ble_eq_true rfl), (Nat.le_of_ble_eq_true rfl)⟩ ⟨p2_25, (upd (upd (upd (upd (upd (upd (upd ff (4 + n) p2_3.2.2.2.1) (14 + n) z_7) (24 + n) z_11) (34 + n) z_15) (44 + n) z_20) (54 + n) z_24) 0 (nI (n + 1))), rfl, rfl, (e6.trans (smS_n (by omega)).symm), (by rw [smF_0 (by omega) (by rw [← e6]; omega)]; unfold smU; rw [← v1, ← v2, ← v3, ← v4, ← v5, ← v6])⟩ dX8_readSmith_191
        · skip
          rw [show (0 : Int32) = nI 0 from rfl] at c_28
          have c_28 := b_ne (by omega) (by omega) c_28
          exact g_vret (Qr := (q_m_readSmith_f T ps n o w0 g1 g2 g3 g4 tp sz w13 w14 g15 w16 g17 w18 w19 g20 w21 g22 g23 g24 w25 w26 w27 g28 g29 w30 g31 g32 g33 ft ff)) hC V ⟨(Nat.le_of_ble_eq_true rfl), (Nat.le_of_ble_eq_true rfl)⟩ ⟨p2_25, ff, rfl, rfl, (e6.trans (smS_n (by omega)).symm), (smF_w (by omega) (by rw [← e6]; omega)).symm⟩ dX8_readSmith_117
      · skip
        refine lv_iload hx hb dX8_readSmith_87 (lv_at hl 0 rfl) ?_
        refine lv_goto (tgt := 94) hx hb dX8_readSmith_89 (by decide) ?_
        refine g_callVU (nA := 4) hC V hl.1 (m_takesIf_f l D T p2_16 o 4 z_15 (nI 200) z_15 w0 g1 g2 g3 g4 tp sz w13 w14 g15 w16 g17 w18 w19 g20 w21 g22 g23 g24 w25 w26 w27 g28 g29 w30 g31 g32 g33 ft (by first | assumption | omega) (by first | assumption | omega) (by first | assumption | omega)) w_1063 w_1065 w_s43 w_9 w_1066 (by decide +kernel) rfl ⟨(Nat.le_of_ble_eq_true rfl), (Nat.le_of_ble_eq_true rfl)⟩ 0 (ci := 8) rfl rfl [0, 1] rfl rfl (Nat.le_of_ble_eq_true rfl) dX8_readSmith_94 ⟨(Nat.le_of_ble_eq_true rfl), (Nat.le_of_ble_eq_true rfl)⟩ rfl (fun r w1 H locs hQ V => ?_)
        obtain ⟨z_29, p2_30, rfl, rfl, f_31, f_32⟩ := hQ
        have V : gW D T A s [(o, .inr (8, [.int w0, .ref g1, .ref g2, .ref g3, .ref g4, .int (nI tp), .int (nI p2_30.1), .int (nI p2_30.2.1), .int (nI sz), .int (nI p2_30.2.2.1), .int p2_30.2.2.2.1, .int (nI p2_30.2.2.2.2.1), .int p2_30.2.2.2.2.2, .int w13, .int w14, .ref g15, .int w16, .ref g17, .int w18, .int w19, .ref g20, .int w21, .ref g22, .ref g23, .ref g24, .int w25, .int w26, .int w27, .ref g28, .ref g29, .int w30, .ref g31, .ref g32, .ref g33])), (g3, .inl (T 0, 900, .inl ft)), (g4, .inl (T 0, 94, .inl ff))] H locs := V _ [0, 0] rfl rfl rfl (by decide +kernel) rfl
        show W p l e _ s m args below meth c H locs _ _ _ (F0 m 97 ls [.int z_29])
        have v5 : z_29 = smHi ft sz ps := by rw [f_31, e4]; unfold smHi mx100; rw [← v4, if_pos (Int32.not_le.mp (by assumption))]
        have e5 : p2_30 = sm5 ft sz ps := by rw [f_32, e4, v4]; rfl
        have hq5 : PI ft sz p2_30 := by rw [f_32]; exact PI_ti hq4
        obtain ⟨_, _, _, _, -⟩ := id hq5
        refine lv_istore (lv' := [(6, .int z_29), (5, .int z_15), (4, .int z_11), (3, .int z_7), (2, .int p2_3.2.2.2.1), (1, .int (nI n)), (0, .ref o)]) hx hb dX8_readSmith_97 hl (by decide) rfl (fun ls hl => ?_)
        refine lv_aload_n hx hb dX8_readSmith_99 rfl (lv_at hl 6 rfl) ?_
        refine lv_iconst (v := (nI 5)) hx hb dX8_readSmith_100 (by decide +kernel) ?_
        refine lv_iconst (v := (nI 0)) hx hb dX8_readSmith_101 (by decide +kernel) ?_
        refine lv_bipush (v := (nI 20)) hx hb dX8_readSmith_102 (by decide +kernel) ?_
        refine lv_iconst (v := (nI 3)) hx hb dX8_readSmith_104 (by decide +kernel) ?_
        refine g_callVU (nA := 4) hC V hl.1 (m_takesIf_f l D T p2_30 o 5 (nI 0) (nI 20) (nI 3) w0 g1 g2 g3 g4 tp sz w13 w14 g15 w16 g17 w18 w19 g20 w21 g22 g23 g24 w25 w26 w27 g28 g29 w30 g31 g32 g33 ft (by first | assumption | omega) (by first | assumption | omega) (by first | assumption | omega)) w_1063 w_1065 w_s43 w_9 w_1066 (by decide +kernel) rfl ⟨(Nat.le_of_ble_eq_true rfl), (Nat.le_of_ble_eq_true rfl)⟩ 0 (ci := 8) rfl rfl [0, 1] rfl rfl (Nat.le_of_ble_eq_true rfl) dX8_readSmith_105 ⟨(Nat.le_of_ble_eq_true rfl), (Nat.le_of_ble_eq_true rfl)⟩ rfl (fun r w1 H locs hQ V => ?_)
        obtain ⟨z_33, p2_34, rfl, rfl, f_35, f_36⟩ := hQ
        have V : gW D T A s [(o, .inr (8, [.int w0, .ref g1, .ref g2, .ref g3, .ref g4, .int (nI tp), .int (nI p2_34.1), .int (nI p2_34.2.1), .int (nI sz), .int (nI p2_34.2.2.1), .int p2_34.2.2.2.1, .int (nI p2_34.2.2.2.2.1), .int p2_34.2.2.2.2.2, .int w13, .int w14, .ref g15, .int w16, .ref g17, .int w18, .int w19, .ref g20, .int w21, .ref g22, .ref g23, .ref g24, .int w25, .int w26, .int w27, .ref g28, .ref g29, .int w30, .ref g31, .ref g32, .ref g33])), (g3, .inl (T 0, 900, .inl ft)), (g4, .inl (T 0, 94, .inl ff))] H locs := V _ [0, 0] rfl rfl rfl (by decide +kernel) rfl
        show W p l e _ s m args below meth c H locs _ _ _ (F0 m 108 ls [.int z_33])
        have v6 : z_33 = smPi ft sz ps := by rw [f_35, e5]; rfl
        have e6 : p2_34 = sm6 ft sz ps := by rw [f_36, e5]; rfl
        have hq6 : PI ft sz p2_34 := by rw [f_36]; exact PI_ti hq5
        obtain ⟨_, _, _, _, -⟩ := id hq6
        refine lv_istore (lv' := [(7, .int z_33), (6, .int z_29), (5, .int z_15), (4, .int z_11), (3, .int z_7), (2, .int p2_3.2.2.2.1), (1, .int (nI n)), (0, .ref o)]) hx hb dX8_readSmith_108 hl (by decide) rfl (fun ls hl => ?_)
        refine lv_aload_n hx hb dX8_readSmith_110 rfl (lv_at hl 7 rfl) ?_
        refine g_get hC V (ci := 8) uwX8 0 rfl rfl 11 (by decide) w_923 rfl rfl dX8_readSmith_111 ?_
        refine lv_if_eq (tgt := 118) hx hb dX8_readSmith_114 (by decide) (fun c_37 => ?_) (fun c_37 => ?_)
        · skip
          rw [show (0 : Int32) = nI 0 from rfl] at c_37
          have c_37 := b_eq (by omega) (by omega) c_37
          refine lv_aload_n hx hb dX8_readSmith_118 rfl (lv_at hl 7 rfl) ?_
          refine g_get hC V (ci := 8) uwX8 0 rfl rfl 4 (by decide) w_916 rfl rfl dX8_readSmith_119 ?_
          refine lv_iconst (v := (nI 4)) hx hb dX8_readSmith_122 (by decide +kernel) ?_
          refine lv_iload_n hx hb dX8_readSmith_123 rfl (lv_at hl 6 rfl) ?_
          refine lv_iadd hx hb dX8_readSmith_124 ?_
          refine g_vi (y := (nI (4 + n))) (nI_add _ _) ?_
          refine lv_iload_n hx hb dX8_readSmith_125 rfl (lv_at hl 5 rfl) ?_
          refine g_iast hC V 2 rfl (vp_in_nI (by omega) (by omega)) (f' := (upd ff (4 + n) p2_3.2.2.2.1)) (by rw [nI_clamp (by omega)]) (ws' := [(o, .inr (8, [.int w0, .ref g1, .ref g2, .ref g3, .ref g4, .int (nI tp), .int (nI p2_34.1), .int (nI p2_34.2.1), .int (nI sz), .int (nI p2_34.2.2.1), .int p2_34.2.2.2.1, .int (nI p2_34.2.2.2.2.1), .int p2_34.2.2.2.2.2, .int w13, .int w14, .ref g15, .int w16, .ref g17, .int w18, .int w19, .ref g20, .int w21, .ref g22, .ref g23, .ref g24, .int w25, .int w26, .int w27, .ref g28, .ref g29, .int w30, .ref g31, .ref g32, .ref g33])), (g3, .inl (T 0, 900, .inl ft)), (g4, .inl (T 0, 94, .inl (upd ff (4 + n) p2_3.2.2.2.1)))]) rfl dX8_readSmith_126 (fun H locs V => ?_)
          refine lv_aload_n hx hb dX8_readSmith_127 rfl (lv_at hl 7 rfl) ?_
          refine g_get hC V (ci := 8) uwX8 0 rfl rfl 4 (by decide) w_916 rfl rfl dX8_readSmith_128 ?_
          refine lv_bipush (v := (nI 14)) hx hb dX8_readSmith_131 (by decide +kernel) ?_
          refine lv_iload_n hx hb dX8_readSmith_133 rfl (lv_at hl 6 rfl) ?_
          refine lv_iadd hx hb dX8_readSmith_134 ?_
          refine g_vi (y := (nI (14 + n))) (nI_add _ _) ?_
          refine lv_iload_n hx hb dX8_readSmith_135 rfl (lv_at hl 4 rfl) ?_
          refine g_iast hC V 2 rfl (vp_in_nI (by omega) (by omega)) (f' := (upd (upd ff (4 + n) p2_3.2.2.2.1) (14 + n) z_7)) (by rw [nI_clamp (by omega)]) (ws' := [(o, .inr (8, [.int w0, .ref g1, .ref g2, .ref g3, .ref g4, .int (nI tp), .int (nI p2_34.1), .int (nI p2_34.2.1), .int (nI sz), .int (nI p2_34.2.2.1), .int p2_34.2.2.2.1, .int (nI p2_34.2.2.2.2.1), .int p2_34.2.2.2.2.2, .int w13, .int w14, .ref g15, .int w16, .ref g17, .int w18, .int w19, .ref g20, .int w21, .ref g22, .ref g23, .ref g24, .int w25, .int w26, .int w27, .ref g28, .ref g29, .int w30, .ref g31, .ref g32, .ref g33])), (g3, .inl (T 0, 900, .inl ft)), (g4, .inl (T 0, 94, .inl (upd (upd ff (4 + n) p2_3.2.2.2.1) (14 + n) z_7)))]) rfl dX8_readSmith_136 (fun H locs V => ?_)
          refine lv_aload_n hx hb dX8_readSmith_137 rfl (lv_at hl 7 rfl) ?_
          refine g_get hC V (ci := 8) uwX8 0 rfl rfl 4 (by decide) w_916 rfl rfl dX8_readSmith_138 ?_
          refine lv_bipush (v := (nI 24)) hx hb dX8_readSmith_141 (by decide +kernel) ?_
          refine lv_iload_n hx hb dX8_readSmith_143 rfl (lv_at hl 6 rfl) ?_
          refine lv_iadd hx hb dX8_readSmith_144 ?_
          refine g_vi (y := (nI (24 + n))) (nI_add _ _) ?_
          refine lv_iload hx hb dX8_readSmith_145 (lv_at hl 3 rfl) ?_
          refine g_iast hC V 2 rfl (vp_in_nI (by omega) (by omega)) (f' := (upd (upd (upd ff (4 + n) p2_3.2.2.2.1) (14 + n) z_7) (24 + n) z_11)) (by rw [nI_clamp (by omega)]) (ws' := [(o, .inr (8, [.int w0, .ref g1, .ref g2, .ref g3, .ref g4, .int (nI tp), .int (nI p2_34.1), .int (nI p2_34.2.1), .int (nI sz), .int (nI p2_34.2.2.1), .int p2_34.2.2.2.1, .int (nI p2_34.2.2.2.2.1), .int p2_34.2.2.2.2.2, .int w13, .int w14, .ref g15, .int w16, .ref g17, .int w18, .int w19, .ref g20, .int w21, .ref g22, .ref g23, .ref g24, .int w25, .int w26, .int w27, .ref g28, .ref g29, .int w30, .ref g31, .ref g32, .ref g33])), (g3, .inl (T 0, 900, .inl ft)), (g4, .inl (T 0, 94, .inl (upd (upd (upd ff (4 + n) p2_3.2.2.2.1) (14 + n) z_7) (24 + n) z_11)))]) rfl dX8_readSmith_147 (fun H locs V => ?_)
          refine lv_aload_n hx hb dX8_readSmith_148 rfl (lv_at hl 7 rfl) ?_
          refine g_get hC V (ci := 8) uwX8 0 rfl rfl 4 (by decide) w_916 rfl rfl dX8_readSmith_149 ?_
          refine lv_bipush (v := (nI 34)) hx hb dX8_readSmith_152 (by decide +kernel) ?_
          refine lv_iload_n hx hb dX8_readSmith_154 rfl (lv_at hl 6 rfl) ?_
          refine lv_iadd hx hb dX8_readSmith_155 ?_
          refine g_vi (y := (nI (34 + n))) (nI_add _ _) ?_
          refine lv_iload hx hb dX8_readSmith_156 (lv_at hl 2 rfl) ?_
          refine g_iast hC V 2 rfl (vp_in_nI (by omega) (by omega)) (f' := (upd (upd (upd (upd ff (4 + n) p2_3.2.2.2.1) (14 + n) z_7) (24 + n) z_11) (34 + n) z_15)) (by rw [nI_clamp (by omega)]) (ws' := [(o, .inr (8, [.int w0, .ref g1, .ref g2, .ref g3, .ref g4, .int (nI tp), .int (nI p2_34.1), .int (nI p2_34.2.1), .int (nI sz), .int (nI p2_34.2.2.1), .int p2_34.2.2.2.1, .int (nI p2_34.2.2.2.2.1), .int p2_34.2.2.2.2.2, .int w13, .int w14, .ref g15, .int w16, .ref g17, .int w18, .int w19, .ref g20, .int w21, .ref g22, .ref g23, .ref g24, .int w25, .int w26, .int w27, .ref g28, .ref g29, .int w30, .ref g31, .ref g32, .ref g33])), (g3, .inl (T 0, 900, .inl ft)), (g4, .inl (T 0, 94, .inl (upd (upd (upd (upd ff (4 + n) p2_3.2.2.2.1) (14 + n) z_7) (24 + n) z_11) (34 + n) z_15)))]) rfl dX8_readSmith_158 (fun H locs V => ?_)
          refine lv_aload_n hx hb dX8_readSmith_159 rfl (lv_at hl 7 rfl) ?_
          refine g_get hC V (ci := 8) uwX8 0 rfl rfl 4 (by decide) w_916 rfl rfl dX8_readSmith_160 ?_
          refine lv_bipush (v := (nI 44)) hx hb dX8_readSmith_163 (by decide +kernel) ?_
          refine lv_iload_n hx hb dX8_readSmith_165 rfl (lv_at hl 6 rfl) ?_
          refine lv_iadd hx hb dX8_readSmith_166 ?_
          refine g_vi (y := (nI (44 + n))) (nI_add _ _) ?_
          refine lv_iload hx hb dX8_readSmith_167 (lv_at hl 1 rfl) ?_
          refine g_iast hC V 2 rfl (vp_in_nI (by omega) (by omega)) (f' := (upd (upd (upd (upd (upd ff (4 + n) p2_3.2.2.2.1) (14 + n) z_7) (24 + n) z_11) (34 + n) z_15) (44 + n) z_29)) (by rw [nI_clamp (by omega)]) (ws' := [(o, .inr (8, [.int w0, .ref g1, .ref g2, .ref g3, .ref g4, .int (nI tp), .int (nI p2_34.1), .int (nI p2_34.2.1), .int (nI sz), .int (nI p2_34.2.2.1), .int p2_34.2.2.2.1, .int (nI p2_34.2.2.2.2.1), .int p2_34.2.2.2.2.2, .int w13, .int w14, .ref g15, .int w16, .ref g17, .int w18, .int w19, .ref g20, .int w21, .ref g22, .ref g23, .ref g24, .int w25, .int w26, .int w27, .ref g28, .ref g29, .int w30, .ref g31, .ref g32, .ref g33])), (g3, .inl (T 0, 900, .inl ft)), (g4, .inl (T 0, 94, .inl (upd (upd (upd (upd (upd ff (4 + n) p2_3.2.2.2.1) (14 + n) z_7) (24 + n) z_11) (34 + n) z_15) (44 + n) z_29)))]) rfl dX8_readSmith_169 (fun H locs V => ?_)
          refine lv_aload_n hx hb dX8_readSmith_170 rfl (lv_at hl 7 rfl) ?_
          refine g_get hC V (ci := 8) uwX8 0 rfl rfl 4 (by decide) w_916 rfl rfl dX8_readSmith_171 ?_
          refine lv_bipush (v := (nI 54)) hx hb dX8_readSmith_174 (by decide +kernel) ?_
          refine lv_iload_n hx hb dX8_readSmith_176 rfl (lv_at hl 6 rfl) ?_
          refine lv_iadd hx hb dX8_readSmith_177 ?_
          refine g_vi (y := (nI (54 + n))) (nI_add _ _) ?_
          refine lv_iload hx hb dX8_readSmith_178 (lv_at hl 0 rfl) ?_
          refine g_iast hC V 2 rfl (vp_in_nI (by omega) (by omega)) (f' := (upd (upd (upd (upd (upd (upd ff (4 + n) p2_3.2.2.2.1) (14 + n) z_7) (24 + n) z_11) (34 + n) z_15) (44 + n) z_29) (54 + n) z_33)) (by rw [nI_clamp (by omega)]) (ws' := [(o, .inr (8, [.int w0, .ref g1, .ref g2, .ref g3, .ref g4, .int (nI tp), .int (nI p2_34.1), .int (nI p2_34.2.1), .int (nI sz), .int (nI p2_34.2.2.1), .int p2_34.2.2.2.1, .int (nI p2_34.2.2.2.2.1), .int p2_34.2.2.2.2.2, .int w13, .int w14, .ref g15, .int w16, .ref g17, .int w18, .int w19, .ref g20, .int w21, .ref g22, .ref g23, .ref g24, .int w25, .int w26, .int w27, .ref g28, .ref g29, .int w30, .ref g31, .ref g32, .ref g33])), (g3, .inl (T 0, 900, .inl ft)), (g4, .inl (T 0, 94, .inl (upd (upd (upd (upd (upd (upd ff (4 + n) p2_3.2.2.2.1) (14 + n) z_7) (24 + n) z_11) (34 + n) z_15) (44 + n) z_29) (54 + n) z_33)))]) rfl dX8_readSmith_180 (fun H locs V => ?_)
          refine lv_aload_n hx hb dX8_readSmith_181 rfl (lv_at hl 7 rfl) ?_
          refine g_get hC V (ci := 8) uwX8 0 rfl rfl 4 (by decide) w_916 rfl rfl dX8_readSmith_182 ?_
          refine lv_iconst (v := (nI 0)) hx hb dX8_readSmith_185 (by decide +kernel) ?_
          refine lv_dup2_11 hx hb dX8_readSmith_186 rfl rfl ?_
          refine g_iald hC V 2 rfl (vp_in_nI (by decide) (by decide)) (v := (nI n)) (by rw [nI_clamp (by decide), up_other (by omega), up_other (by omega), up_other (by omega), up_other (by omega), up_other (by omega), up_other (by omega)]; exact h_fr.2.1) dX8_readSmith_187 ?_
          refine lv_iconst (v := (nI 1)) hx hb dX8_readSmith_188 (by decide +kernel) ?_
          refine lv_iadd hx hb dX8_readSmith_189 ?_
          refine g_vi (y := (nI (n + 1))) (nI_add _ _) ?_
          refine g_iast hC V 2 rfl (vp_in_nI (by decide) (by decide)) (f' := (upd (upd (upd (upd (upd (upd (upd ff (4 + n) p2_3.2.2.2.1) (14 + n) z_7) (24 + n) z_11) (34 + n) z_15) (44 + n) z_29) (54 + n) z_33) 0 (nI (n + 1)))) (by rw [nI_clamp (by decide)]) (ws' := [(o, .inr (8, [.int w0, .ref g1, .ref g2, .ref g3, .ref g4, .int (nI tp), .int (nI p2_34.1), .int (nI p2_34.2.1), .int (nI sz), .int (nI p2_34.2.2.1), .int p2_34.2.2.2.1, .int (nI p2_34.2.2.2.2.1), .int p2_34.2.2.2.2.2, .int w13, .int w14, .ref g15, .int w16, .ref g17, .int w18, .int w19, .ref g20, .int w21, .ref g22, .ref g23, .ref g24, .int w25, .int w26, .int w27, .ref g28, .ref g29, .int w30, .ref g31, .ref g32, .ref g33])), (g3, .inl (T 0, 900, .inl ft)), (g4, .inl (T 0, 94, .inl (upd (upd (upd (upd (upd (upd (upd ff (4 + n) p2_3.2.2.2.1) (14 + n) z_7) (24 + n) z_11) (34 + n) z_15) (44 + n) z_29) (54 + n) z_33) 0 (nI (n + 1)))))]) rfl dX8_readSmith_190 (fun H locs V => ?_)
          exact g_vret (Qr := (q_m_readSmith_f T ps n o w0 g1 g2 g3 g4 tp sz w13 w14 g15 w16 g17 w18 w19 g20 w21 g22 g23 g24 w25 w26 w27 g28 g29 w30 g31 g32 g33 ft ff)) hC V ⟨(Nat.le_of_ble_eq_true rfl), (Nat.le_of_ble_eq_true rfl)⟩ ⟨p2_34, (upd (upd (upd (upd (upd (upd (upd ff (4 + n) p2_3.2.2.2.1) (14 + n) z_7) (24 + n) z_11) (34 + n) z_15) (44 + n) z_29) (54 + n) z_33) 0 (nI (n + 1))), rfl, rfl, (e6.trans (smS_n (by omega)).symm), (by rw [smF_0 (by omega) (by rw [← e6]; omega)]; unfold smU; rw [← v1, ← v2, ← v3, ← v4, ← v5, ← v6])⟩ dX8_readSmith_191
        · skip
          rw [show (0 : Int32) = nI 0 from rfl] at c_37
          have c_37 := b_ne (by omega) (by omega) c_37
          exact g_vret (Qr := (q_m_readSmith_f T ps n o w0 g1 g2 g3 g4 tp sz w13 w14 g15 w16 g17 w18 w19 g20 w21 g22 g23 g24 w25 w26 w27 g28 g29 w30 g31 g32 g33 ft ff)) hC V ⟨(Nat.le_of_ble_eq_true rfl), (Nat.le_of_ble_eq_true rfl)⟩ ⟨p2_34, ff, rfl, rfl, (e6.trans (smS_n (by omega)).symm), (smF_w (by omega) (by rw [← e6]; omega)).symm⟩ dX8_readSmith_117
    · skip
      rw [show (0 : Int32) = nI 0 from rfl] at c_2
      have c_2 := b_ne (by omega) (by omega) c_2
      exact (by omega : False).elim
  · skip
    have c_1 := b_eq (by omega) (by omega) c_1
    refine lv_aload_n hx hb dX8_readSmith_13 rfl (lv_at hl 1 rfl) ?_
    refine lv_iconst (v := (nI 4)) hx hb dX8_readSmith_14 (by decide +kernel) ?_
    refine g_callVU (nA := 1) hC V hl.1 (m_fails_f l D T ps sz o 4 w0 g1 g2 g3 g4 tp w13 w14 g15 w16 g17 w18 w19 g20 w21 g22 g23 g24 w25 w26 w27 g28 g29 w30 g31 g32 g33 (by first | assumption | omega) (by first | assumption | omega)) w_1055 w_1057 w_s41 w_9 w_1058 (by decide +kernel) rfl ⟨(Nat.le_of_ble_eq_true rfl), (Nat.le_of_ble_eq_true rfl)⟩ 0 (ci := 8) rfl rfl [0] rfl rfl (Nat.le_of_ble_eq_true rfl) dX8_readSmith_15 ⟨(Nat.le_of_ble_eq_true rfl), (Nat.le_of_ble_eq_true rfl)⟩ rfl (fun r w1 H locs hQ V => ?_)
    obtain ⟨p2_38, rfl, rfl, f_39⟩ := hQ
    have V : gW D T A s [(o, .inr (8, [.int w0, .ref g1, .ref g2, .ref g3, .ref g4, .int (nI tp), .int (nI p2_38.1), .int (nI p2_38.2.1), .int (nI sz), .int (nI p2_38.2.2.1), .int p2_38.2.2.2.1, .int (nI p2_38.2.2.2.2.1), .int p2_38.2.2.2.2.2, .int w13, .int w14, .ref g15, .int w16, .ref g17, .int w18, .int w19, .ref g20, .int w21, .ref g22, .ref g23, .ref g24, .int w25, .int w26, .int w27, .ref g28, .ref g29, .int w30, .ref g31, .ref g32, .ref g33])), (g3, .inl (T 0, 900, .inl ft)), (g4, .inl (T 0, 94, .inl ff))] H locs := V _ [0] rfl rfl rfl (by decide +kernel) rfl
    show W p l e _ s m args below meth c H locs _ _ _ (F0 m 18 ls [])
    have hwp2_38 : ¬ p2_38.2.2.2.2.1 = 0 := by rw [f_39]; exact fa_w (by decide)
    have hPp2_38 : PI ft sz p2_38 := by rw [f_39]; exact PI_fa h_p (by decide)
    obtain ⟨_, _, _, _, -⟩ := id hPp2_38
    refine lv_aload_n hx hb dX8_readSmith_18 rfl (lv_at hl 1 rfl) ?_
    refine g_get hC V (ci := 8) uwX8 0 rfl rfl 11 (by decide) w_923 rfl rfl dX8_readSmith_19 ?_
    refine lv_if_eq (tgt := 26) hx hb dX8_readSmith_22 (by decide) (fun c_40 => ?_) (fun c_40 => ?_)
    · skip
      rw [show (0 : Int32) = nI 0 from rfl] at c_40
      have c_40 := b_eq (by omega) (by omega) c_40
      exact (by omega : False).elim
    · skip
      rw [show (0 : Int32) = nI 0 from rfl] at c_40
      have c_40 := b_ne (by omega) (by omega) c_40
      exact g_vret (Qr := (q_m_readSmith_f T ps n o w0 g1 g2 g3 g4 tp sz w13 w14 g15 w16 g17 w18 w19 g20 w21 g22 g23 g24 w25 w26 w27 g28 g29 w30 g31 g32 g33 ft ff)) hC V ⟨(Nat.le_of_ble_eq_true rfl), (Nat.le_of_ble_eq_true rfl)⟩ ⟨p2_38, ff, rfl, rfl, (f_39.trans (smS_10 (by omega)).symm), (smF_10 (by omega)).symm⟩ dX8_readSmith_25

def q_m_readBlows_f (T : Nat → ClassId) (ps : PS) (n : Nat) (o : Nat) (w0 : Int32) (g1 : Nat) (g2 : Nat) (g3 : Nat) (g4 : Nat) (tp : Nat) (sz : Nat) (w13 : Int32) (w14 : Int32) (g15 : Nat) (w16 : Int32) (g17 : Nat) (w18 : Int32) (w19 : Int32) (g20 : Nat) (w21 : Int32) (g22 : Nat) (g23 : Nat) (g24 : Nat) (w25 : Int32) (w26 : Int32) (w27 : Int32) (g28 : Nat) (g29 : Nat) (w30 : Int32) (g31 : Nat) (g32 : Nat) (g33 : Nat) (ft : Nat → Int32) (ff : Nat → Int32) : Option Value → va_W → Prop := fun rr ww => (∃ (p2 : PS) (gf : Nat → Int32), rr = none ∧ ww = [(o, .inr (8, [.int w0, .ref g1, .ref g2, .ref g3, .ref g4, .int (nI tp), .int (nI p2.1), .int (nI p2.2.1), .int (nI sz), .int (nI p2.2.2.1), .int p2.2.2.2.1, .int (nI p2.2.2.2.2.1), .int p2.2.2.2.2.2, .int w13, .int w14, .ref g15, .int w16, .ref g17, .int w18, .int w19, .ref g20, .int w21, .ref g22, .ref g23, .ref g24, .int w25, .int w26, .int w27, .ref g28, .ref g29, .int w30, .ref g31, .ref g32, .ref g33])), (g3, .inl (T 0, 900, .inl ft)), (g4, .inl (T 0, 94, .inl gf))] ∧ p2 = blS ft sz n ps ∧ gf = blF ft sz n ps ff)
set_option maxHeartbeats 4000000 in
set_option maxRecDepth 100000 in
theorem m_readBlows_f (l : Launch) (D : va_G) (T : Nat → ClassId) (ps : PS) (n : Nat) (o : Nat) (w0 : Int32) (g1 : Nat) (g2 : Nat) (g3 : Nat) (g4 : Nat) (tp : Nat) (sz : Nat) (w13 : Int32) (w14 : Int32) (g15 : Nat) (w16 : Int32) (g17 : Nat) (w18 : Int32) (w19 : Int32) (g20 : Nat) (w21 : Int32) (g22 : Nat) (g23 : Nat) (g24 : Nat) (w25 : Int32) (w26 : Int32) (w27 : Int32) (g28 : Nat) (g29 : Nat) (w30 : Int32) (g31 : Nat) (g32 : Nat) (g33 : Nat) (ft : Nat → Int32) (ff : Nat → Int32) (h_sz : sz ≤ 900) (h_p : PI ft sz ps) (h_fr : FR n ff) : Ct l yX8_readBlows cX8_readBlows 3 none 7 0 0 D T [.ref o] [(o, .inr (8, [.int w0, .ref g1, .ref g2, .ref g3, .ref g4, .int (nI tp), .int (nI ps.1), .int (nI ps.2.1), .int (nI sz), .int (nI ps.2.2.1), .int ps.2.2.2.1, .int (nI ps.2.2.2.2.1), .int ps.2.2.2.2.2, .int w13, .int w14, .ref g15, .int w16, .ref g17, .int w18, .int w19, .ref g20, .int w21, .ref g22, .ref g23, .ref g24, .int w25, .int w26, .int w27, .ref g28, .ref g29, .int w30, .ref g31, .ref g32, .ref g33])), (g3, .inl (T 0, 900, .inl ft)), (g4, .inl (T 0, 94, .inl ff))] (q_m_readBlows_f T ps n o w0 g1 g2 g3 g4 tp sz w13 w14 g15 w16 g17 w18 w19 g20 w21 g22 g23 g24 w25 w26 w27 g28 g29 w30 g31 g32 g33 ft ff) := by
  refine Ct.of (cc := cX8_readBlows) (maxL := 3) (ret := none) (by decide) (Nat.le_of_ble_eq_true rfl) ?_
  intro p e s m args below meth c A ls hC hnm V hl
  obtain ⟨hx, hb, hr, hml, hown, hts, hlocks⟩ := id hC
  generalize hH : s.heap = H at V ⊢
  clear hH
  have hl : lv_has ls 3 [(0, .ref o)] := hl
  generalize hlo : ([] : List Loc) = locs at V ⊢
  clear hlo
  have hn10 := h_fr.1
  obtain ⟨_, _, _, _, -⟩ := id h_p
  refine lv_aload_n hx hb dX8_readBlows_0 rfl (lv_at hl 0 rfl) ?_
  refine lv_iconst (v := (nI 0)) hx hb dX8_readBlows_1 (by decide +kernel) ?_
  refine lv_aload_n hx hb dX8_readBlows_2 rfl (lv_at hl 0 rfl) ?_
  refine g_get hC V (ci := 8) uwX8 0 rfl rfl 4 (by decide) w_916 rfl rfl dX8_readBlows_3 ?_
  refine lv_iconst (v := (nI 0)) hx hb dX8_readBlows_6 (by decide +kernel) ?_
  refine g_iald hC V 2 rfl (vp_in_nI (by decide) (by decide)) (v := (nI n)) (by rw [nI_clamp (by decide)]; first | rfl | exact h_fr.2.1) dX8_readBlows_7 ?_
  refine lv_iconst (v := (nI 1)) hx hb dX8_readBlows_8 (by decide +kernel) ?_
  refine lv_isub hx hb dX8_readBlows_9 ?_
  refine g_callVU (nA := 2) hC V hl.1 (m_takes_f l D T ps o (nI 0) ((nI n) - (nI 1)) w0 g1 g2 g3 g4 tp sz w13 w14 g15 w16 g17 w18 w19 g20 w21 g22 g23 g24 w25 w26 w27 g28 g29 w30 g31 g32 g33 ft (by first | assumption | omega) (by first | assumption | omega)) w_1059 w_1061 w_s42 w_9 w_1062 (by decide +kernel) rfl ⟨(Nat.le_of_ble_eq_true rfl), (Nat.le_of_ble_eq_true rfl)⟩ 0 (ci := 8) rfl rfl [0, 1] rfl rfl (Nat.le_of_ble_eq_true rfl) dX8_readBlows_10 ⟨(Nat.le_of_ble_eq_true rfl), (Nat.le_of_ble_eq_true rfl)⟩ rfl (fun r w1 H locs hQ V => ?_)
  obtain ⟨p2_1, rfl, rfl, f_2⟩ := hQ
  have V : gW D T A s [(o, .inr (8, [.int w0, .ref g1, .ref g2, .ref g3, .ref g4, .int (nI tp), .int (nI p2_1.1), .int (nI p2_1.2.1), .int (nI sz), .int (nI p2_1.2.2.1), .int p2_1.2.2.2.1, .int (nI p2_1.2.2.2.2.1), .int p2_1.2.2.2.2.2, .int w13, .int w14, .ref g15, .int w16, .ref g17, .int w18, .int w19, .ref g20, .int w21, .ref g22, .ref g23, .ref g24, .int w25, .int w26, .int w27, .ref g28, .ref g29, .int w30, .ref g31, .ref g32, .ref g33])), (g3, .inl (T 0, 900, .inl ft)), (g4, .inl (T 0, 94, .inl ff))] H locs := V _ [0, 0] rfl rfl rfl (by decide +kernel) rfl
  show W p l e _ s m args below meth c H locs _ _ _ (F0 m 13 ls [.int ps.2.2.2.1])
  have e1 : p2_1 = bl1 ft sz n ps := f_2
  have hq1 : PI ft sz p2_1 := by rw [f_2]; exact PI_tk h_p
  obtain ⟨_, _, _, _, -⟩ := id hq1
  refine lv_istore_n (lv' := [(1, .int ps.2.2.2.1), (0, .ref o)]) hx hb dX8_readBlows_13 rfl hl (by decide) rfl (fun ls hl => ?_)
  refine lv_aload_n hx hb dX8_readBlows_14 rfl (lv_at hl 1 rfl) ?_
  refine lv_iconst (v := (nI 0)) hx hb dX8_readBlows_15 (by decide +kernel) ?_
  refine lv_aload_n hx hb dX8_readBlows_16 rfl (lv_at hl 1 rfl) ?_
  refine g_get hC V (ci := 8) uwX8 0 rfl rfl 4 (by decide) w_916 rfl rfl dX8_readBlows_17 ?_
  refine lv_iconst (v := (nI 0)) hx hb dX8_readBlows_20 (by decide +kernel) ?_
  refine g_iald hC V 2 rfl (vp_in_nI (by decide) (by decide)) (v := (nI n)) (by rw [nI_clamp (by decide)]; first | rfl | exact h_fr.2.1) dX8_readBlows_21 ?_
  refine lv_iconst (v := (nI 1)) hx hb dX8_readBlows_22 (by decide +kernel) ?_
  refine lv_isub hx hb dX8_readBlows_23 ?_
  refine g_callVU (nA := 2) hC V hl.1 (m_takes_f l D T p2_1 o (nI 0) ((nI n) - (nI 1)) w0 g1 g2 g3 g4 tp sz w13 w14 g15 w16 g17 w18 w19 g20 w21 g22 g23 g24 w25 w26 w27 g28 g29 w30 g31 g32 g33 ft (by first | assumption | omega) (by first | assumption | omega)) w_1059 w_1061 w_s42 w_9 w_1062 (by decide +kernel) rfl ⟨(Nat.le_of_ble_eq_true rfl), (Nat.le_of_ble_eq_true rfl)⟩ 0 (ci := 8) rfl rfl [0, 1] rfl rfl (Nat.le_of_ble_eq_true rfl) dX8_readBlows_24 ⟨(Nat.le_of_ble_eq_true rfl), (Nat.le_of_ble_eq_true rfl)⟩ rfl (fun r w1 H locs hQ V => ?_)
  obtain ⟨p2_3, rfl, rfl, f_4⟩ := hQ
  have V : gW D T A s [(o, .inr (8, [.int w0, .ref g1, .ref g2, .ref g3, .ref g4, .int (nI tp), .int (nI p2_3.1), .int (nI p2_3.2.1), .int (nI sz), .int (nI p2_3.2.2.1), .int p2_3.2.2.2.1, .int (nI p2_3.2.2.2.2.1), .int p2_3.2.2.2.2.2, .int w13, .int w14, .ref g15, .int w16, .ref g17, .int w18, .int w19, .ref g20, .int w21, .ref g22, .ref g23, .ref g24, .int w25, .int w26, .int w27, .ref g28, .ref g29, .int w30, .ref g31, .ref g32, .ref g33])), (g3, .inl (T 0, 900, .inl ft)), (g4, .inl (T 0, 94, .inl ff))] H locs := V _ [0, 0] rfl rfl rfl (by decide +kernel) rfl
  show W p l e _ s m args below meth c H locs _ _ _ (F0 m 27 ls [.int p2_1.2.2.2.1])
  have e2 : p2_3 = blS ft sz n ps := by rw [f_4, e1]; rfl
  have hq2 : PI ft sz p2_3 := by rw [f_4]; exact PI_tk hq1
  obtain ⟨_, _, _, _, -⟩ := id hq2
  refine lv_istore_n (lv' := [(2, .int p2_1.2.2.2.1), (1, .int ps.2.2.2.1), (0, .ref o)]) hx hb dX8_readBlows_27 rfl hl (by decide) rfl (fun ls hl => ?_)
  refine lv_aload_n hx hb dX8_readBlows_28 rfl (lv_at hl 2 rfl) ?_
  refine g_get hC V (ci := 8) uwX8 0 rfl rfl 11 (by decide) w_923 rfl rfl dX8_readBlows_29 ?_
  refine lv_if_ne (tgt := 47) hx hb dX8_readBlows_32 (by decide) (fun c_5 => ?_) (fun c_5 => ?_)
  · skip
    rw [show (0 : Int32) = nI 0 from rfl] at c_5
    have c_5 := b_ne (by omega) (by omega) c_5
    exact g_vret (Qr := (q_m_readBlows_f T ps n o w0 g1 g2 g3 g4 tp sz w13 w14 g15 w16 g17 w18 w19 g20 w21 g22 g23 g24 w25 w26 w27 g28 g29 w30 g31 g32 g33 ft ff)) hC V ⟨(Nat.le_of_ble_eq_true rfl), (Nat.le_of_ble_eq_true rfl)⟩ ⟨p2_3, ff, rfl, rfl, e2, (bl_w (by rw [← e2]; omega)).symm⟩ dX8_readBlows_47
  · skip
    rw [show (0 : Int32) = nI 0 from rfl] at c_5
    have c_5 := b_eq (by omega) (by omega) c_5
    have r2 := tk_rng (Eq.trans (congrArg (fun q : PS => q.2.2.2.2.1) f_4.symm) c_5)
    have r1 := tk_rng (Eq.trans (congrArg (fun q : PS => q.2.2.2.2.1) f_2.symm) r2.2.2)
    obtain ⟨jw, hjw, ejw⟩ := pred_bd hn10 r1.1 r1.2.1
    obtain ⟨jv, hjv, ejv⟩ := pred_bd hn10 r2.1 r2.2.1
    rw [ejw, ejv] at hl
    refine lv_aload_n hx hb dX8_readBlows_35 rfl (lv_at hl 2 rfl) ?_
    refine g_get hC V (ci := 8) uwX8 0 rfl rfl 4 (by decide) w_916 rfl rfl dX8_readBlows_36 ?_
    refine lv_bipush (v := (nI 84)) hx hb dX8_readBlows_39 (by decide +kernel) ?_
    refine lv_iload_n hx hb dX8_readBlows_41 rfl (lv_at hl 1 rfl) ?_
    refine lv_iadd hx hb dX8_readBlows_42 ?_
    refine g_vi (y := (nI (84 + jw))) (nI_add _ _) ?_
    refine lv_iload_n hx hb dX8_readBlows_43 rfl (lv_at hl 0 rfl) ?_
    refine lv_iconst (v := (nI 1)) hx hb dX8_readBlows_44 (by decide +kernel) ?_
    refine lv_iadd hx hb dX8_readBlows_45 ?_
    refine g_vi (y := (nI (jv + 1))) (nI_add _ _) ?_
    refine g_iast hC V 2 rfl (vp_in_nI (by omega) (by omega)) (f' := (upd ff (84 + jw) (nI (jv + 1)))) (by rw [nI_clamp (by omega)]) (ws' := [(o, .inr (8, [.int w0, .ref g1, .ref g2, .ref g3, .ref g4, .int (nI tp), .int (nI p2_3.1), .int (nI p2_3.2.1), .int (nI sz), .int (nI p2_3.2.2.1), .int p2_3.2.2.2.1, .int (nI p2_3.2.2.2.2.1), .int p2_3.2.2.2.2.2, .int w13, .int w14, .ref g15, .int w16, .ref g17, .int w18, .int w19, .ref g20, .int w21, .ref g22, .ref g23, .ref g24, .int w25, .int w26, .int w27, .ref g28, .ref g29, .int w30, .ref g31, .ref g32, .ref g33])), (g3, .inl (T 0, 900, .inl ft)), (g4, .inl (T 0, 94, .inl (upd ff (84 + jw) (nI (jv + 1)))))]) rfl dX8_readBlows_46 (fun H locs V => ?_)
    exact g_vret (Qr := (q_m_readBlows_f T ps n o w0 g1 g2 g3 g4 tp sz w13 w14 g15 w16 g17 w18 w19 g20 w21 g22 g23 g24 w25 w26 w27 g28 g29 w30 g31 g32 g33 ft ff)) hC V ⟨(Nat.le_of_ble_eq_true rfl), (Nat.le_of_ble_eq_true rfl)⟩ ⟨p2_3, (upd ff (84 + jw) (nI (jv + 1))), rfl, rfl, e2, (by rw [bl_0 (by rw [← e2]; omega) ejw (by rw [← e1]; exact ejv) (by omega)])⟩ dX8_readBlows_47
