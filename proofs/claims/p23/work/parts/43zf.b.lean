def q_m_waves_f (T : Nat → ClassId) (n : Nat) (o : Nat) (le : Nat) (st : Nat) (w0 : Int32) (g1 : Nat) (g2 : Nat) (g3 : Nat) (g4 : Nat) (tp : Nat) (w6 : Int32) (w7 : Int32) (w8 : Int32) (w9 : Int32) (w10 : Int32) (w11 : Int32) (w12 : Int32) (w13 : Int32) (w14 : Int32) (g15 : Nat) (w16 : Int32) (g17 : Nat) (w18 : Int32) (w19 : Int32) (g20 : Nat) (w21 : Int32) (g22 : Nat) (g23 : Nat) (g24 : Nat) (w25 : Int32) (w26 : Int32) (w27 : Int32) (g28 : Nat) (g29 : Nat) (w30 : Int32) (g31 : Nat) (g32 : Nat) (g33 : Nat) (fa : Nat → Int32) (fh : Nat → Int32) (fk : Nat → Int32) (fr : Nat → Int64) : Option Value → va_W → Prop := fun rr ww => (∃ (z : Int32) (wq : Int32) (gh : Nat → Int32) (gk : Nat → Int32) (gr : Nat → Int64), rr = some (.int z) ∧ ww = [(o, .inr (8, [.int w0, .ref g1, .ref g2, .ref g3, .ref g4, .int (nI tp), .int w6, .int w7, .int w8, .int w9, .int w10, .int w11, .int w12, .int w13, .int w14, .ref g15, .int w16, .ref g17, .int w18, .int w19, .ref g20, .int wq, .ref g22, .ref g23, .ref g24, .int w25, .int w26, .int w27, .ref g28, .ref g29, .int w30, .ref g31, .ref g32, .ref g33])), (g1, .inl (T 0, 282, .inl fa)), (g15, .inl (T 0, 10, .inl gh)), (g17, .inl (T 0, 94, .inl gk)), (g20, .inl (T 1, 10, .inr (.inl gr)))] ∧ z = hoZ n fa (wvP st le) le)
set_option maxHeartbeats 4000000 in
set_option maxRecDepth 100000 in
theorem m_waves_f (l : Launch) (D : va_G) (T : Nat → ClassId) (n : Nat) (o : Nat) (le : Nat) (st : Nat) (w0 : Int32) (g1 : Nat) (g2 : Nat) (g3 : Nat) (g4 : Nat) (tp : Nat) (w6 : Int32) (w7 : Int32) (w8 : Int32) (w9 : Int32) (w10 : Int32) (w11 : Int32) (w12 : Int32) (w13 : Int32) (w14 : Int32) (g15 : Nat) (w16 : Int32) (g17 : Nat) (w18 : Int32) (w19 : Int32) (g20 : Nat) (w21 : Int32) (g22 : Nat) (g23 : Nat) (g24 : Nat) (w25 : Int32) (w26 : Int32) (w27 : Int32) (g28 : Nat) (g29 : Nat) (w30 : Int32) (g31 : Nat) (g32 : Nat) (g33 : Nat) (fa : Nat → Int32) (fh : Nat → Int32) (fk : Nat → Int32) (fr : Nat → Int64) (h_a : MI n fa) (h_l : 1 ≤ le ∧ le ≤ 12) (h_lb : LB fa) (h_st : st ≤ 12) : Ct l yX8_waves cX8_waves 4 (some .int) 4 0 0 D T [.ref o, .int (nI le), .int (nI st)] [(o, .inr (8, [.int w0, .ref g1, .ref g2, .ref g3, .ref g4, .int (nI tp), .int w6, .int w7, .int w8, .int w9, .int w10, .int w11, .int w12, .int w13, .int w14, .ref g15, .int w16, .ref g17, .int w18, .int w19, .ref g20, .int w21, .ref g22, .ref g23, .ref g24, .int w25, .int w26, .int w27, .ref g28, .ref g29, .int w30, .ref g31, .ref g32, .ref g33])), (g1, .inl (T 0, 282, .inl fa)), (g15, .inl (T 0, 10, .inl fh)), (g17, .inl (T 0, 94, .inl fk)), (g20, .inl (T 1, 10, .inr (.inl fr)))] (q_m_waves_f T n o le st w0 g1 g2 g3 g4 tp w6 w7 w8 w9 w10 w11 w12 w13 w14 g15 w16 g17 w18 w19 g20 w21 g22 g23 g24 w25 w26 w27 g28 g29 w30 g31 g32 g33 fa fh fk fr) := by
  refine Ct.of (cc := cX8_waves) (maxL := 4) (ret := (some .int)) (by decide) (Nat.le_of_ble_eq_true rfl) ?_
  intro p e s m args below meth c A ls hC hnm V hl
  obtain ⟨hx, hb, hr, hml, hown, hts, hlocks⟩ := id hC
  generalize hH : s.heap = H at V ⊢
  clear hH
  have hl : lv_has ls 4 [(0, .ref o), (1, .int (nI le)), (2, .int (nI st))] := hl
  generalize hlo : ([] : List Loc) = locs at V ⊢
  clear hlo
  have ms0 := ms_rf h_a
  have hn10 := h_a.1
  refine lv_iconst (v := (nI 0)) hx hb dX8_waves_0 (by decide +kernel) ?_
  refine lv_istore_n (lv' := [(3, .int (nI 0)), (0, .ref o), (1, .int (nI le)), (2, .int (nI st))]) hx hb dX8_waves_1 rfl hl (by decide) rfl (fun ls hl => ?_)
  have L_1 : ∀ (fu : Nat) (k2 : Nat) (gq : Nat → Int64), k2 ≤ n → (∀ i, i < k2 → ∀ t, t < le → (lbP (gq i) t ↔ bitP (wvP st le i) t)) → n - k2 < fu → ∀ (H : Heap) (locs : List Loc) (ls : Array Slot), gW D T A s [(o, .inr (8, [.int w0, .ref g1, .ref g2, .ref g3, .ref g4, .int (nI tp), .int w6, .int w7, .int w8, .int w9, .int w10, .int w11, .int w12, .int w13, .int w14, .ref g15, .int w16, .ref g17, .int w18, .int w19, .ref g20, .int w21, .ref g22, .ref g23, .ref g24, .int w25, .int w26, .int w27, .ref g28, .ref g29, .int w30, .ref g31, .ref g32, .ref g33])), (g1, .inl (T 0, 282, .inl fa)), (g15, .inl (T 0, 10, .inl fh)), (g17, .inl (T 0, 94, .inl fk)), (g20, .inl (T 1, 10, .inr (.inl gq)))] H locs → lv_has ls 4 [(3, .int (nI k2)), (0, .ref o), (1, .int (nI le)), (2, .int (nI st))] → W p l e (rmD 4 0 0) s m args below meth c H locs 0 0 (MQ below (gQ D A (q_m_waves_f T n o le st w0 g1 g2 g3 g4 tp w6 w7 w8 w9 w10 w11 w12 w13 w14 g15 w16 g17 w18 w19 g20 w21 g22 g23 g24 w25 w26 w27 g28 g29 w30 g31 g32 g33 fa fh fk fr)) args s 0 0 A) (F0 m 2 ls []) := by
    intro fu_2
    induction fu_2 with
    | zero => intro k2 gq hk2 hgq hmu; exact absurd hmu (Nat.not_lt_zero _)
    | succ fu_2 ih_2 =>
      intro k2 gq hk2 hgq hmu_2 H locs ls V hl
      refine lv_iload_n hx hb dX8_waves_2 rfl (lv_at hl 0 rfl) ?_
      refine lv_aload_n hx hb dX8_waves_3 rfl (lv_at hl 1 rfl) ?_
      refine g_get hC V (ci := 8) uwX8 0 rfl rfl 1 (by decide) w_913 rfl rfl dX8_waves_4 ?_
      refine lv_iconst (v := (nI 0)) hx hb dX8_waves_7 (by decide +kernel) ?_
      refine g_iald hC V 1 rfl (vp_in_nI (by decide) (by decide)) (v := (nI n)) (by rw [nI_clamp (by decide)]; first | rfl | exact h_a.2.1) dX8_waves_8 ?_
      refine lv_icmp_ge (tgt := 31) hx hb dX8_waves_9 (by decide) (fun c_2 => ?_) (fun c_2 => ?_)
      · skip
        have c_2 := b_le (by omega) (by omega) c_2
        refine lv_aload_n hx hb dX8_waves_31 rfl (lv_at hl 1 rfl) ?_
        refine lv_iload_n hx hb dX8_waves_32 rfl (lv_at hl 2 rfl) ?_
        refine g_callV (wr := []) (nA := 1) hC V hl.1 (m_holdsBy_f l D T (wvP st le) n o le w0 g1 g2 g3 g4 tp w6 w7 w8 w9 w10 w11 w12 w13 w14 g15 w16 g17 w18 w19 g20 w21 g22 g23 g24 w25 w26 w27 g28 g29 w30 g31 g32 g33 fa fh fk gq h_a ⟨by omega, by omega⟩ h_lb (fun k hk => hgq k (by omega))) w_1229 w_1231 w_s64 w_9 w_1232 (by decide +kernel) rfl ⟨(Nat.le_of_ble_eq_true rfl), (Nat.le_of_ble_eq_true rfl)⟩ 0 (ci := 8) rfl rfl [0, 1, 2, 3, 4] [] rfl rfl rfl rfl (by decide) (Nat.le_of_ble_eq_true rfl) dX8_waves_33 ⟨(Nat.le_of_ble_eq_true rfl), (Nat.le_of_ble_eq_true rfl)⟩ rfl (fun r w1 H locs hQ V => ?_)
        obtain ⟨z_3, wq_4, gh_5, gk_6, rfl, rfl, f_7⟩ := hQ
        have V : gW D T A s [(o, .inr (8, [.int w0, .ref g1, .ref g2, .ref g3, .ref g4, .int (nI tp), .int w6, .int w7, .int w8, .int w9, .int w10, .int w11, .int w12, .int w13, .int w14, .ref g15, .int w16, .ref g17, .int w18, .int w19, .ref g20, .int wq_4, .ref g22, .ref g23, .ref g24, .int w25, .int w26, .int w27, .ref g28, .ref g29, .int w30, .ref g31, .ref g32, .ref g33])), (g1, .inl (T 0, 282, .inl fa)), (g15, .inl (T 0, 10, .inl gh_5)), (g17, .inl (T 0, 94, .inl gk_6)), (g20, .inl (T 1, 10, .inr (.inl gq)))] H locs := V
        show W p l e _ s m args below meth c H locs _ _ _ (F0 m 36 ls [.int z_3])
        exact g_iret (Qr := (q_m_waves_f T n o le st w0 g1 g2 g3 g4 tp w6 w7 w8 w9 w10 w11 w12 w13 w14 g15 w16 g17 w18 w19 g20 w21 g22 g23 g24 w25 w26 w27 g28 g29 w30 g31 g32 g33 fa fh fk fr)) hC V ⟨(Nat.le_of_ble_eq_true rfl), (Nat.le_of_ble_eq_true rfl)⟩ ⟨z_3, wq_4, gh_5, gk_6, gq, rfl, rfl, (hz_of f_7)⟩ dX8_waves_36
      · skip
        have c_2 := b_nle (by omega) (by omega) c_2
        have hkst := Nat.mul_le_mul (show k2 ≤ 10 by omega) (show st ≤ 12 by omega)
        refine lv_aload_n hx hb dX8_waves_12 rfl (lv_at hl 1 rfl) ?_
        refine g_get hC V (ci := 8) uwX8 0 rfl rfl 20 (by decide) w_932 rfl rfl dX8_waves_13 ?_
        refine lv_iload_n hx hb dX8_waves_16 rfl (lv_at hl 0 rfl) ?_
        refine lv_lconst (v := (nI 1).toInt64) hx hb dX8_waves_17 (by decide +kernel) ?_
        refine lv_iload_n hx hb dX8_waves_18 rfl (lv_at hl 0 rfl) ?_
        refine lv_iload_n hx hb dX8_waves_19 rfl (lv_at hl 3 rfl) ?_
        refine lv_imul hx hb dX8_waves_20 ?_
        refine g_vi (y := (nI (k2 * st))) (pk_mul _ _) ?_
        refine lv_iload_n hx hb dX8_waves_21 rfl (lv_at hl 2 rfl) ?_
        refine lv_irem hx hb dX8_waves_22 (nI_ne0 (by omega) (by omega)) ?_
        refine g_vi (y := (nI ((k2 * st) % le))) (nI_rem (by omega) (by omega)) ?_
        refine lv_lshl hx hb dX8_waves_23 rfl ?_
        refine g_last hC V 4 rfl (vp_in_nI (by omega) (by omega)) (f' := (vp_updL gq k2 ((nI 1).toInt64 <<< (((nI ((k2 * st) % le))).toInt64 &&& 63)))) (by rw [nI_clamp (by omega)]) (ws' := [(o, .inr (8, [.int w0, .ref g1, .ref g2, .ref g3, .ref g4, .int (nI tp), .int w6, .int w7, .int w8, .int w9, .int w10, .int w11, .int w12, .int w13, .int w14, .ref g15, .int w16, .ref g17, .int w18, .int w19, .ref g20, .int w21, .ref g22, .ref g23, .ref g24, .int w25, .int w26, .int w27, .ref g28, .ref g29, .int w30, .ref g31, .ref g32, .ref g33])), (g1, .inl (T 0, 282, .inl fa)), (g15, .inl (T 0, 10, .inl fh)), (g17, .inl (T 0, 94, .inl fk)), (g20, .inl (T 1, 10, .inr (.inl (vp_updL gq k2 ((nI 1).toInt64 <<< (((nI ((k2 * st) % le))).toInt64 &&& 63))))))]) rfl dX8_waves_24 (fun H locs V => ?_)
        refine lv_iinc (v := (nI (k2 + 1))) (lv' := [(3, .int (nI (k2 + 1))), (0, .ref o), (1, .int (nI le)), (2, .int (nI st))]) hx hb dX8_waves_25 hl (k := 0) rfl (nI_1 _) (by decide) rfl (fun ls hl => ?_)
        refine lv_goto (tgt := 2) hx hb dX8_waves_28 (by decide) ?_
        exact ih_2 (k2 + 1) (vp_updL gq k2 ((nI 1).toInt64 <<< (((nI ((k2 * st) % le))).toInt64 &&& 63))) (by omega) (upL_one (p := fun i x => ∀ t, t < le → (lbP x t ↔ bitP (wvP st le i) t)) hgq (fun t ht => lw_p (by omega) (by omega) ht)) (by omega) _ _ _ V (lv_sub hl [0, 1, 2, 3] rfl)
  exact L_1 _ 0 fr (by omega) (fun i h => absurd h (Nat.not_lt_zero _)) (Nat.lt_succ_self _) _ _ _ V (lv_sub hl [0, 1, 2, 3] rfl)

def q_m_wave_f (T : Nat → ClassId) (n : Nat) (o : Nat) (le : Int32) (st : Int32) (w0 : Int32) (g1 : Nat) (g2 : Nat) (g3 : Nat) (g4 : Nat) (tp : Nat) (w6 : Int32) (w7 : Int32) (w8 : Int32) (w9 : Int32) (w10 : Int32) (w11 : Int32) (w12 : Int32) (w13 : Int32) (w14 : Int32) (g15 : Nat) (w16 : Int32) (g17 : Nat) (w18 : Int32) (w19 : Int32) (g20 : Nat) (w21 : Int32) (g22 : Nat) (g23 : Nat) (g24 : Nat) (w25 : Int32) (w26 : Int32) (w27 : Int32) (g28 : Nat) (g29 : Nat) (w30 : Int32) (g31 : Nat) (g32 : Nat) (g33 : Nat) (fa : Nat → Int32) (fh : Nat → Int32) (fk : Nat → Int32) (fr : Nat → Int64) : Option Value → va_W → Prop := fun rr ww => (∃ (z : Int32) (wq : Int32) (gh : Nat → Int32) (gk : Nat → Int32) (gr : Nat → Int64), rr = some (.int z) ∧ ww = [(o, .inr (8, [.int (nI 0), .ref g1, .ref g2, .ref g3, .ref g4, .int (nI tp), .int w6, .int w7, .int w8, .int w9, .int w10, .int w11, .int w12, .int w13, .int w14, .ref g15, .int w16, .ref g17, .int w18, .int w19, .ref g20, .int wq, .ref g22, .ref g23, .ref g24, .int w25, .int w26, .int w27, .ref g28, .ref g29, .int w30, .ref g31, .ref g32, .ref g33])), (g1, .inl (T 0, 282, .inl fa)), (g15, .inl (T 0, 10, .inl gh)), (g17, .inl (T 0, 94, .inl gk)), (g20, .inl (T 1, 10, .inr (.inl gr)))] ∧ z = wvA n fa le st)
set_option maxHeartbeats 4000000 in
set_option maxRecDepth 100000 in
theorem m_wave_f (l : Launch) (D : va_G) (T : Nat → ClassId) (n : Nat) (o : Nat) (le : Int32) (st : Int32) (w0 : Int32) (g1 : Nat) (g2 : Nat) (g3 : Nat) (g4 : Nat) (tp : Nat) (w6 : Int32) (w7 : Int32) (w8 : Int32) (w9 : Int32) (w10 : Int32) (w11 : Int32) (w12 : Int32) (w13 : Int32) (w14 : Int32) (g15 : Nat) (w16 : Int32) (g17 : Nat) (w18 : Int32) (w19 : Int32) (g20 : Nat) (w21 : Int32) (g22 : Nat) (g23 : Nat) (g24 : Nat) (w25 : Int32) (w26 : Int32) (w27 : Int32) (g28 : Nat) (g29 : Nat) (w30 : Int32) (g31 : Nat) (g32 : Nat) (g33 : Nat) (fa : Nat → Int32) (fh : Nat → Int32) (fk : Nat → Int32) (fr : Nat → Int64) (h_a : MI n fa) (h_lb : LB fa) : Ct l yX8_wave cX8_wave 3 (some .int) 5 0 0 D T [.ref o, .int le, .int st] [(o, .inr (8, [.int w0, .ref g1, .ref g2, .ref g3, .ref g4, .int (nI tp), .int w6, .int w7, .int w8, .int w9, .int w10, .int w11, .int w12, .int w13, .int w14, .ref g15, .int w16, .ref g17, .int w18, .int w19, .ref g20, .int w21, .ref g22, .ref g23, .ref g24, .int w25, .int w26, .int w27, .ref g28, .ref g29, .int w30, .ref g31, .ref g32, .ref g33])), (g1, .inl (T 0, 282, .inl fa)), (g15, .inl (T 0, 10, .inl fh)), (g17, .inl (T 0, 94, .inl fk)), (g20, .inl (T 1, 10, .inr (.inl fr)))] (q_m_wave_f T n o le st w0 g1 g2 g3 g4 tp w6 w7 w8 w9 w10 w11 w12 w13 w14 g15 w16 g17 w18 w19 g20 w21 g22 g23 g24 w25 w26 w27 g28 g29 w30 g31 g32 g33 fa fh fk fr) := by
  refine Ct.of (cc := cX8_wave) (maxL := 3) (ret := (some .int)) (by decide) (Nat.le_of_ble_eq_true rfl) ?_
  intro p e s m args below meth c A ls hC hnm V hl
  obtain ⟨hx, hb, hr, hml, hown, hts, hlocks⟩ := id hC
  generalize hH : s.heap = H at V ⊢
  clear hH
  have hl : lv_has ls 3 [(0, .ref o), (1, .int le), (2, .int st)] := hl
  generalize hlo : ([] : List Loc) = locs at V ⊢
  clear hlo
  have ms0 := ms_rf h_a
  have hn10 := h_a.1
  refine lv_aload_n hx hb dX8_wave_0 rfl (lv_at hl 0 rfl) ?_
  refine lv_iconst (v := (nI 0)) hx hb dX8_wave_1 (by decide +kernel) ?_
  refine g_put hC V (ci := 8) uwX8 tyX8 tyX8_ok nmX8 0 rfl rfl 0 (by decide) w_912 rfl rfl rfl rfl (Nat.le_of_ble_eq_true rfl) (ws' := [(o, .inr (8, [.int (nI 0), .ref g1, .ref g2, .ref g3, .ref g4, .int (nI tp), .int w6, .int w7, .int w8, .int w9, .int w10, .int w11, .int w12, .int w13, .int w14, .ref g15, .int w16, .ref g17, .int w18, .int w19, .ref g20, .int w21, .ref g22, .ref g23, .ref g24, .int w25, .int w26, .int w27, .ref g28, .ref g29, .int w30, .ref g31, .ref g32, .ref g33])), (g1, .inl (T 0, 282, .inl fa)), (g15, .inl (T 0, 10, .inl fh)), (g17, .inl (T 0, 94, .inl fk)), (g20, .inl (T 1, 10, .inr (.inl fr)))]) rfl dX8_wave_2 (fun H locs V => ?_)
  refine lv_iload_n hx hb dX8_wave_5 rfl (lv_at hl 1 rfl) ?_
  refine lv_i2l (v := le.toInt64) hx hb dX8_wave_6 rfl ?_
  refine lv_lconst (v := (nI 1).toInt64) hx hb dX8_wave_7 (by decide +kernel) ?_
  refine lv_ldc2 (v := (12)) hx hb hown (hts _ w_1228) dX8_wave_8 ?_
  refine g_vl (y := (nI 12).toInt64) (by decide +kernel) ?_
  refine g_callSU (nA := 3) hC V hl.1 (m_within l D T le (nI 1) (nI 12)) w_1023 w_1024 w_9 w_1025 (by decide +kernel) rfl ⟨(Nat.le_of_ble_eq_true rfl), (Nat.le_of_ble_eq_true rfl)⟩ [] rfl rfl (Nat.le_of_ble_eq_true rfl) dX8_wave_11 ⟨(Nat.le_of_ble_eq_true rfl), (Nat.le_of_ble_eq_true rfl)⟩ rfl (fun r w1 H locs hQ V => ?_)
  rcases hQ with ⟨rfl, rfl, f_1, f_2⟩ | ⟨rfl, rfl, f_3⟩
  · have V : gW D T A s [(o, .inr (8, [.int (nI 0), .ref g1, .ref g2, .ref g3, .ref g4, .int (nI tp), .int w6, .int w7, .int w8, .int w9, .int w10, .int w11, .int w12, .int w13, .int w14, .ref g15, .int w16, .ref g17, .int w18, .int w19, .ref g20, .int w21, .ref g22, .ref g23, .ref g24, .int w25, .int w26, .int w27, .ref g28, .ref g29, .int w30, .ref g31, .ref g32, .ref g33])), (g1, .inl (T 0, 282, .inl fa)), (g15, .inl (T 0, 10, .inl fh)), (g17, .inl (T 0, 94, .inl fk)), (g20, .inl (T 1, 10, .inr (.inl fr)))] H locs := V _ [] rfl rfl rfl (by decide +kernel) rfl
    show W p l e _ s m args below meth c H locs _ _ _ (F0 m 14 ls [.int (nI 1)])
    obtain ⟨i, hi1, hi2, ei⟩ := g_rng (by first | decide | omega) (by first | decide | omega) f_1 f_2
    rw [ei] at hl
    refine lv_if_eq (tgt := 39) hx hb dX8_wave_14 (by decide) (fun c => absurd (show (nI 1) = 0 from c) (by decide +kernel)) (fun _ => ?_)
    refine lv_iload_n hx hb dX8_wave_17 rfl (lv_at hl 2 rfl) ?_
    refine lv_i2l (v := st.toInt64) hx hb dX8_wave_18 rfl ?_
    refine lv_lconst (v := (nI 0).toInt64) hx hb dX8_wave_19 (by decide +kernel) ?_
    refine lv_iload_n hx hb dX8_wave_20 rfl (lv_at hl 1 rfl) ?_
    refine lv_iconst (v := (nI 1)) hx hb dX8_wave_21 (by decide +kernel) ?_
    refine lv_isub hx hb dX8_wave_22 ?_
    refine g_vi (y := (nI (i - 1))) (nI_sub (by omega)) ?_
    refine lv_i2l (v := (nI (i - 1)).toInt64) hx hb dX8_wave_23 rfl ?_
    refine g_callSU (nA := 3) hC V hl.1 (m_within l D T st (nI 0) (nI (i - 1))) w_1023 w_1024 w_9 w_1025 (by decide +kernel) rfl ⟨(Nat.le_of_ble_eq_true rfl), (Nat.le_of_ble_eq_true rfl)⟩ [] rfl rfl (Nat.le_of_ble_eq_true rfl) dX8_wave_24 ⟨(Nat.le_of_ble_eq_true rfl), (Nat.le_of_ble_eq_true rfl)⟩ rfl (fun r w1 H locs hQ V => ?_)
    rcases hQ with ⟨rfl, rfl, f_4, f_5⟩ | ⟨rfl, rfl, f_6⟩
    · have V : gW D T A s [(o, .inr (8, [.int (nI 0), .ref g1, .ref g2, .ref g3, .ref g4, .int (nI tp), .int w6, .int w7, .int w8, .int w9, .int w10, .int w11, .int w12, .int w13, .int w14, .ref g15, .int w16, .ref g17, .int w18, .int w19, .ref g20, .int w21, .ref g22, .ref g23, .ref g24, .int w25, .int w26, .int w27, .ref g28, .ref g29, .int w30, .ref g31, .ref g32, .ref g33])), (g1, .inl (T 0, 282, .inl fa)), (g15, .inl (T 0, 10, .inl fh)), (g17, .inl (T 0, 94, .inl fk)), (g20, .inl (T 1, 10, .inr (.inl fr)))] H locs := V _ [] rfl rfl rfl (by decide +kernel) rfl
      show W p l e _ s m args below meth c H locs _ _ _ (F0 m 27 ls [.int (nI 1)])
      obtain ⟨js, hjs1, hjs2, ejs⟩ := g_rng (by first | decide | omega) (by first | decide | omega) f_4 f_5
      rw [ejs] at hl
      refine lv_if_eq (tgt := 39) hx hb dX8_wave_27 (by decide) (fun c => absurd (show (nI 1) = 0 from c) (by decide +kernel)) (fun _ => ?_)
      refine lv_aload_n hx hb dX8_wave_30 rfl (lv_at hl 0 rfl) ?_
      refine lv_iload_n hx hb dX8_wave_31 rfl (lv_at hl 1 rfl) ?_
      refine lv_iload_n hx hb dX8_wave_32 rfl (lv_at hl 2 rfl) ?_
      refine g_callV (wr := []) (nA := 2) hC V hl.1 (m_waves_f l D T n o i js (nI 0) g1 g2 g3 g4 tp w6 w7 w8 w9 w10 w11 w12 w13 w14 g15 w16 g17 w18 w19 g20 w21 g22 g23 g24 w25 w26 w27 g28 g29 w30 g31 g32 g33 fa fh fk fr h_a ⟨by omega, by omega⟩ h_lb (by omega)) w_1245 w_1247 w_s66 w_9 w_1248 (by decide +kernel) rfl ⟨(Nat.le_of_ble_eq_true rfl), (Nat.le_of_ble_eq_true rfl)⟩ 0 (ci := 8) rfl rfl [0, 1, 2, 3, 4] [] rfl rfl rfl rfl (by decide) (Nat.le_of_ble_eq_true rfl) dX8_wave_33 ⟨(Nat.le_of_ble_eq_true rfl), (Nat.le_of_ble_eq_true rfl)⟩ rfl (fun r w1 H locs hQ V => ?_)
      obtain ⟨z_7, wq_8, gh_9, gk_10, gr_11, rfl, rfl, f_12⟩ := hQ
      have V : gW D T A s [(o, .inr (8, [.int (nI 0), .ref g1, .ref g2, .ref g3, .ref g4, .int (nI tp), .int w6, .int w7, .int w8, .int w9, .int w10, .int w11, .int w12, .int w13, .int w14, .ref g15, .int w16, .ref g17, .int w18, .int w19, .ref g20, .int wq_8, .ref g22, .ref g23, .ref g24, .int w25, .int w26, .int w27, .ref g28, .ref g29, .int w30, .ref g31, .ref g32, .ref g33])), (g1, .inl (T 0, 282, .inl fa)), (g15, .inl (T 0, 10, .inl gh_9)), (g17, .inl (T 0, 94, .inl gk_10)), (g20, .inl (T 1, 10, .inr (.inl gr_11)))] H locs := V
      show W p l e _ s m args below meth c H locs _ _ _ (F0 m 36 ls [.int z_7])
      refine lv_goto (tgt := 41) hx hb dX8_wave_36 (by decide) ?_
      exact g_iret (Qr := (q_m_wave_f T n o le st w0 g1 g2 g3 g4 tp w6 w7 w8 w9 w10 w11 w12 w13 w14 g15 w16 g17 w18 w19 g20 w21 g22 g23 g24 w25 w26 w27 g28 g29 w30 g31 g32 g33 fa fh fk fr)) hC V ⟨(Nat.le_of_ble_eq_true rfl), (Nat.le_of_ble_eq_true rfl)⟩ ⟨z_7, wq_8, gh_9, gk_10, gr_11, rfl, rfl, (wv_y f_1 f_2 ei (by omega) (by omega) f_4 f_5 ejs (by omega) f_12)⟩ dX8_wave_41
    · have V : gW D T A s [(o, .inr (8, [.int (nI 0), .ref g1, .ref g2, .ref g3, .ref g4, .int (nI tp), .int w6, .int w7, .int w8, .int w9, .int w10, .int w11, .int w12, .int w13, .int w14, .ref g15, .int w16, .ref g17, .int w18, .int w19, .ref g20, .int w21, .ref g22, .ref g23, .ref g24, .int w25, .int w26, .int w27, .ref g28, .ref g29, .int w30, .ref g31, .ref g32, .ref g33])), (g1, .inl (T 0, 282, .inl fa)), (g15, .inl (T 0, 10, .inl fh)), (g17, .inl (T 0, 94, .inl fk)), (g20, .inl (T 1, 10, .inr (.inl fr)))] H locs := V _ [] rfl rfl rfl (by decide +kernel) rfl
      show W p l e _ s m args below meth c H locs _ _ _ (F0 m 27 ls [.int (nI 0)])
      refine lv_if_eq (tgt := 39) hx hb dX8_wave_27 (by decide) (fun _ => ?_) (fun c => absurd (show (nI 0) = 0 by decide +kernel) c)
      refine lv_bipush (v := (-3)) hx hb dX8_wave_39 (by decide +kernel) ?_
      exact g_iret (Qr := (q_m_wave_f T n o le st w0 g1 g2 g3 g4 tp w6 w7 w8 w9 w10 w11 w12 w13 w14 g15 w16 g17 w18 w19 g20 w21 g22 g23 g24 w25 w26 w27 g28 g29 w30 g31 g32 g33 fa fh fk fr)) hC V ⟨(Nat.le_of_ble_eq_true rfl), (Nat.le_of_ble_eq_true rfl)⟩ ⟨(-3), w21, fh, fk, fr, rfl, rfl, (wv_4 f_1 f_2 ei (by omega) f_6)⟩ dX8_wave_41
  · have V : gW D T A s [(o, .inr (8, [.int (nI 0), .ref g1, .ref g2, .ref g3, .ref g4, .int (nI tp), .int w6, .int w7, .int w8, .int w9, .int w10, .int w11, .int w12, .int w13, .int w14, .ref g15, .int w16, .ref g17, .int w18, .int w19, .ref g20, .int w21, .ref g22, .ref g23, .ref g24, .int w25, .int w26, .int w27, .ref g28, .ref g29, .int w30, .ref g31, .ref g32, .ref g33])), (g1, .inl (T 0, 282, .inl fa)), (g15, .inl (T 0, 10, .inl fh)), (g17, .inl (T 0, 94, .inl fk)), (g20, .inl (T 1, 10, .inr (.inl fr)))] H locs := V _ [] rfl rfl rfl (by decide +kernel) rfl
    show W p l e _ s m args below meth c H locs _ _ _ (F0 m 14 ls [.int (nI 0)])
    refine lv_if_eq (tgt := 39) hx hb dX8_wave_14 (by decide) (fun _ => ?_) (fun c => absurd (show (nI 0) = 0 by decide +kernel) c)
    refine lv_bipush (v := (-3)) hx hb dX8_wave_39 (by decide +kernel) ?_
    exact g_iret (Qr := (q_m_wave_f T n o le st w0 g1 g2 g3 g4 tp w6 w7 w8 w9 w10 w11 w12 w13 w14 g15 w16 g17 w18 w19 g20 w21 g22 g23 g24 w25 w26 w27 g28 g29 w30 g31 g32 g33 fa fh fk fr)) hC V ⟨(Nat.le_of_ble_eq_true rfl), (Nat.le_of_ble_eq_true rfl)⟩ ⟨(-3), w21, fh, fk, fr, rfl, rfl, (wv_3 f_3)⟩ dX8_wave_41

def q_m_bestWave_f (T : Nat → ClassId) (n : Nat) (o : Nat) (le : Int32) (w0 : Int32) (g1 : Nat) (g2 : Nat) (g3 : Nat) (g4 : Nat) (tp : Nat) (w6 : Int32) (w7 : Int32) (w8 : Int32) (w9 : Int32) (w10 : Int32) (w11 : Int32) (w12 : Int32) (w13 : Int32) (w14 : Int32) (g15 : Nat) (w16 : Int32) (g17 : Nat) (w18 : Int32) (w19 : Int32) (g20 : Nat) (w21 : Int32) (g22 : Nat) (g23 : Nat) (g24 : Nat) (w25 : Int32) (w26 : Int32) (w27 : Int32) (g28 : Nat) (g29 : Nat) (w30 : Int32) (g31 : Nat) (g32 : Nat) (g33 : Nat) (fa : Nat → Int32) (fh : Nat → Int32) (fk : Nat → Int32) (fr : Nat → Int64) : Option Value → va_W → Prop := fun rr ww => (∃ (z : Int32) (wq : Int32) (gh : Nat → Int32) (gk : Nat → Int32) (gr : Nat → Int64), rr = some (.int z) ∧ ww = [(o, .inr (8, [.int (nI 0), .ref g1, .ref g2, .ref g3, .ref g4, .int (nI tp), .int w6, .int w7, .int w8, .int w9, .int w10, .int w11, .int w12, .int w13, .int w14, .ref g15, .int w16, .ref g17, .int w18, .int w19, .ref g20, .int wq, .ref g22, .ref g23, .ref g24, .int w25, .int w26, .int w27, .ref g28, .ref g29, .int w30, .ref g31, .ref g32, .ref g33])), (g1, .inl (T 0, 282, .inl fa)), (g15, .inl (T 0, 10, .inl gh)), (g17, .inl (T 0, 94, .inl gk)), (g20, .inl (T 1, 10, .inr (.inl gr)))] ∧ z = bwA n fa le)
set_option maxHeartbeats 4000000 in
set_option maxRecDepth 100000 in
theorem m_bestWave_f (l : Launch) (D : va_G) (T : Nat → ClassId) (n : Nat) (o : Nat) (le : Int32) (w0 : Int32) (g1 : Nat) (g2 : Nat) (g3 : Nat) (g4 : Nat) (tp : Nat) (w6 : Int32) (w7 : Int32) (w8 : Int32) (w9 : Int32) (w10 : Int32) (w11 : Int32) (w12 : Int32) (w13 : Int32) (w14 : Int32) (g15 : Nat) (w16 : Int32) (g17 : Nat) (w18 : Int32) (w19 : Int32) (g20 : Nat) (w21 : Int32) (g22 : Nat) (g23 : Nat) (g24 : Nat) (w25 : Int32) (w26 : Int32) (w27 : Int32) (g28 : Nat) (g29 : Nat) (w30 : Int32) (g31 : Nat) (g32 : Nat) (g33 : Nat) (fa : Nat → Int32) (fh : Nat → Int32) (fk : Nat → Int32) (fr : Nat → Int64) (h_a : MI n fa) (h_lb : LB fa) : Ct l yX8_bestWave cX8_bestWave 6 (some .int) 5 0 0 D T [.ref o, .int le] [(o, .inr (8, [.int w0, .ref g1, .ref g2, .ref g3, .ref g4, .int (nI tp), .int w6, .int w7, .int w8, .int w9, .int w10, .int w11, .int w12, .int w13, .int w14, .ref g15, .int w16, .ref g17, .int w18, .int w19, .ref g20, .int w21, .ref g22, .ref g23, .ref g24, .int w25, .int w26, .int w27, .ref g28, .ref g29, .int w30, .ref g31, .ref g32, .ref g33])), (g1, .inl (T 0, 282, .inl fa)), (g15, .inl (T 0, 10, .inl fh)), (g17, .inl (T 0, 94, .inl fk)), (g20, .inl (T 1, 10, .inr (.inl fr)))] (q_m_bestWave_f T n o le w0 g1 g2 g3 g4 tp w6 w7 w8 w9 w10 w11 w12 w13 w14 g15 w16 g17 w18 w19 g20 w21 g22 g23 g24 w25 w26 w27 g28 g29 w30 g31 g32 g33 fa fh fk fr) := by
  refine Ct.of (cc := cX8_bestWave) (maxL := 6) (ret := (some .int)) (by decide) (Nat.le_of_ble_eq_true rfl) ?_
  intro p e s m args below meth c A ls hC hnm V hl
  obtain ⟨hx, hb, hr, hml, hown, hts, hlocks⟩ := id hC
  generalize hH : s.heap = H at V ⊢
  clear hH
  have hl : lv_has ls 6 [(0, .ref o), (1, .int le)] := hl
  generalize hlo : ([] : List Loc) = locs at V ⊢
  clear hlo
  have ms0 := ms_rf h_a
  have hn10 := h_a.1
  refine lv_aload_n hx hb dX8_bestWave_0 rfl (lv_at hl 0 rfl) ?_
  refine lv_iconst (v := (nI 0)) hx hb dX8_bestWave_1 (by decide +kernel) ?_
  refine g_put hC V (ci := 8) uwX8 tyX8 tyX8_ok nmX8 0 rfl rfl 0 (by decide) w_912 rfl rfl rfl rfl (Nat.le_of_ble_eq_true rfl) (ws' := [(o, .inr (8, [.int (nI 0), .ref g1, .ref g2, .ref g3, .ref g4, .int (nI tp), .int w6, .int w7, .int w8, .int w9, .int w10, .int w11, .int w12, .int w13, .int w14, .ref g15, .int w16, .ref g17, .int w18, .int w19, .ref g20, .int w21, .ref g22, .ref g23, .ref g24, .int w25, .int w26, .int w27, .ref g28, .ref g29, .int w30, .ref g31, .ref g32, .ref g33])), (g1, .inl (T 0, 282, .inl fa)), (g15, .inl (T 0, 10, .inl fh)), (g17, .inl (T 0, 94, .inl fk)), (g20, .inl (T 1, 10, .inr (.inl fr)))]) rfl dX8_bestWave_2 (fun H locs V => ?_)
  refine lv_iload_n hx hb dX8_bestWave_5 rfl (lv_at hl 1 rfl) ?_
  refine lv_i2l (v := le.toInt64) hx hb dX8_bestWave_6 rfl ?_
  refine lv_lconst (v := (nI 1).toInt64) hx hb dX8_bestWave_7 (by decide +kernel) ?_
  refine lv_ldc2 (v := (12)) hx hb hown (hts _ w_1228) dX8_bestWave_8 ?_
  refine g_vl (y := (nI 12).toInt64) (by decide +kernel) ?_
  refine g_callSU (nA := 3) hC V hl.1 (m_within l D T le (nI 1) (nI 12)) w_1023 w_1024 w_9 w_1025 (by decide +kernel) rfl ⟨(Nat.le_of_ble_eq_true rfl), (Nat.le_of_ble_eq_true rfl)⟩ [] rfl rfl (Nat.le_of_ble_eq_true rfl) dX8_bestWave_11 ⟨(Nat.le_of_ble_eq_true rfl), (Nat.le_of_ble_eq_true rfl)⟩ rfl (fun r w1 H locs hQ V => ?_)
  rcases hQ with ⟨rfl, rfl, f_1, f_2⟩ | ⟨rfl, rfl, f_3⟩
  · have V : gW D T A s [(o, .inr (8, [.int (nI 0), .ref g1, .ref g2, .ref g3, .ref g4, .int (nI tp), .int w6, .int w7, .int w8, .int w9, .int w10, .int w11, .int w12, .int w13, .int w14, .ref g15, .int w16, .ref g17, .int w18, .int w19, .ref g20, .int w21, .ref g22, .ref g23, .ref g24, .int w25, .int w26, .int w27, .ref g28, .ref g29, .int w30, .ref g31, .ref g32, .ref g33])), (g1, .inl (T 0, 282, .inl fa)), (g15, .inl (T 0, 10, .inl fh)), (g17, .inl (T 0, 94, .inl fk)), (g20, .inl (T 1, 10, .inr (.inl fr)))] H locs := V _ [] rfl rfl rfl (by decide +kernel) rfl
    show W p l e _ s m args below meth c H locs _ _ _ (F0 m 14 ls [.int (nI 1)])
    obtain ⟨i, hi1, hi2, ei⟩ := g_rng (by first | decide | omega) (by first | decide | omega) f_1 f_2
    rw [ei] at hl
    refine lv_if_ne (tgt := 20) hx hb dX8_bestWave_14 (by decide) (fun _ => ?_) (fun c => absurd (show (nI 1) = 0 from c) (by decide +kernel))
    refine lv_iconst (v := (nI 0)) hx hb dX8_bestWave_20 (by decide +kernel) ?_
    refine lv_istore_n (lv' := [(2, .int (nI 0)), (0, .ref o), (1, .int (nI i))]) hx hb dX8_bestWave_21 rfl hl (by decide) rfl (fun ls hl => ?_)
    refine lv_iconst (v := (nI 0)) hx hb dX8_bestWave_22 (by decide +kernel) ?_
    refine lv_istore_n (lv' := [(3, .int (nI 0)), (2, .int (nI 0)), (0, .ref o), (1, .int (nI i))]) hx hb dX8_bestWave_23 rfl hl (by decide) rfl (fun ls hl => ?_)
    refine lv_iconst (v := (nI 0)) hx hb dX8_bestWave_24 (by decide +kernel) ?_
    refine lv_istore (lv' := [(4, .int (nI 0)), (3, .int (nI 0)), (2, .int (nI 0)), (0, .ref o), (1, .int (nI i))]) hx hb dX8_bestWave_25 hl (by decide) rfl (fun ls hl => ?_)
    have L_4 : ∀ (fu : Nat) (kb : Nat) (x2 : Int32) (x3 : Int32) (wv : Int32) (ga_ : Nat → Int32) (gb_ : Nat → Int32) (gc_ : Nat → Int64), kb ≤ i → bwG n fa i i 0 (nI 0) (nI 0) = bwG n fa i (i - kb) kb x2 x3 → i - kb < fu → ∀ (H : Heap) (locs : List Loc) (ls : Array Slot), gW D T A s [(o, .inr (8, [.int (nI 0), .ref g1, .ref g2, .ref g3, .ref g4, .int (nI tp), .int w6, .int w7, .int w8, .int w9, .int w10, .int w11, .int w12, .int w13, .int w14, .ref g15, .int w16, .ref g17, .int w18, .int w19, .ref g20, .int wv, .ref g22, .ref g23, .ref g24, .int w25, .int w26, .int w27, .ref g28, .ref g29, .int w30, .ref g31, .ref g32, .ref g33])), (g1, .inl (T 0, 282, .inl fa)), (g15, .inl (T 0, 10, .inl ga_)), (g17, .inl (T 0, 94, .inl gb_)), (g20, .inl (T 1, 10, .inr (.inl gc_)))] H locs → lv_has ls 6 [(4, .int (nI kb)), (3, .int x3), (2, .int x2), (0, .ref o), (1, .int (nI i))] → W p l e (rmD 5 0 0) s m args below meth c H locs 0 0 (MQ below (gQ D A (q_m_bestWave_f T n o le w0 g1 g2 g3 g4 tp w6 w7 w8 w9 w10 w11 w12 w13 w14 g15 w16 g17 w18 w19 g20 w21 g22 g23 g24 w25 w26 w27 g28 g29 w30 g31 g32 g33 fa fh fk fr)) args s 0 0 A) (F0 m 27 ls []) := by
      intro fu_27
      induction fu_27 with
      | zero => intro kb x2 x3 wv ga_ gb_ gc_ hkb hE hmu; exact absurd hmu (Nat.not_lt_zero _)
      | succ fu_27 ih_27 =>
        intro kb x2 x3 wv ga_ gb_ gc_ hkb hE hmu_27 H locs ls V hl
        refine lv_iload hx hb dX8_bestWave_27 (lv_at hl 0 rfl) ?_
        refine lv_iload_n hx hb dX8_bestWave_29 rfl (lv_at hl 4 rfl) ?_
        refine lv_icmp_ge (tgt := 72) hx hb dX8_bestWave_30 (by decide) (fun c_5 => ?_) (fun c_5 => ?_)
        · skip
          have c_5 := b_le (by omega) (by omega) c_5
          refine lv_iload_n hx hb dX8_bestWave_72 rfl (lv_at hl 2 rfl) ?_
          exact g_iret (Qr := (q_m_bestWave_f T n o le w0 g1 g2 g3 g4 tp w6 w7 w8 w9 w10 w11 w12 w13 w14 g15 w16 g17 w18 w19 g20 w21 g22 g23 g24 w25 w26 w27 g28 g29 w30 g31 g32 g33 fa fh fk fr)) hC V ⟨(Nat.le_of_ble_eq_true rfl), (Nat.le_of_ble_eq_true rfl)⟩ ⟨x2, wv, ga_, gb_, gc_, rfl, rfl, (bwa_y f_1 f_2 ei (by omega) (hE.trans (bw_e (by omega))))⟩ dX8_bestWave_73
        · skip
          have c_5 := b_nle (by omega) (by omega) c_5
          refine lv_aload_n hx hb dX8_bestWave_33 rfl (lv_at hl 3 rfl) ?_
          refine lv_iload_n hx hb dX8_bestWave_34 rfl (lv_at hl 4 rfl) ?_
          refine lv_iload hx hb dX8_bestWave_35 (lv_at hl 0 rfl) ?_
          refine g_callV (wr := []) (nA := 2) hC V hl.1 (m_waves_f l D T n o i kb (nI 0) g1 g2 g3 g4 tp w6 w7 w8 w9 w10 w11 w12 w13 w14 g15 w16 g17 w18 w19 g20 wv g22 g23 g24 w25 w26 w27 g28 g29 w30 g31 g32 g33 fa ga_ gb_ gc_ h_a ⟨by omega, by omega⟩ h_lb (by omega)) w_1245 w_1247 w_s66 w_9 w_1248 (by decide +kernel) rfl ⟨(Nat.le_of_ble_eq_true rfl), (Nat.le_of_ble_eq_true rfl)⟩ 0 (ci := 8) rfl rfl [0, 1, 2, 3, 4] [] rfl rfl rfl rfl (by decide) (Nat.le_of_ble_eq_true rfl) dX8_bestWave_37 ⟨(Nat.le_of_ble_eq_true rfl), (Nat.le_of_ble_eq_true rfl)⟩ rfl (fun r w1 H locs hQ V => ?_)
          obtain ⟨z_6, wq_7, gh_8, gk_9, gr_10, rfl, rfl, f_11⟩ := hQ
          have V : gW D T A s [(o, .inr (8, [.int (nI 0), .ref g1, .ref g2, .ref g3, .ref g4, .int (nI tp), .int w6, .int w7, .int w8, .int w9, .int w10, .int w11, .int w12, .int w13, .int w14, .ref g15, .int w16, .ref g17, .int w18, .int w19, .ref g20, .int wq_7, .ref g22, .ref g23, .ref g24, .int w25, .int w26, .int w27, .ref g28, .ref g29, .int w30, .ref g31, .ref g32, .ref g33])), (g1, .inl (T 0, 282, .inl fa)), (g15, .inl (T 0, 10, .inl gh_8)), (g17, .inl (T 0, 94, .inl gk_9)), (g20, .inl (T 1, 10, .inr (.inl gr_10)))] H locs := V
          show W p l e _ s m args below meth c H locs _ _ _ (F0 m 40 ls [.int z_6])
          refine lv_istore (lv' := [(5, .int z_6), (4, .int (nI kb)), (3, .int x3), (2, .int x2), (0, .ref o), (1, .int (nI i))]) hx hb dX8_bestWave_40 hl (by decide) rfl (fun ls hl => ?_)
          refine lv_iload hx hb dX8_bestWave_42 (lv_at hl 0 rfl) ?_
          refine lv_iconst (v := (-1)) hx hb dX8_bestWave_44 (by decide +kernel) ?_
          refine lv_icmp_ne (tgt := 51) hx hb dX8_bestWave_45 (by decide) (fun c_12 => ?_) (fun c_12 => ?_)
          · skip
            refine lv_iload hx hb dX8_bestWave_51 (lv_at hl 0 rfl) ?_
            refine lv_iload_n hx hb dX8_bestWave_53 rfl (lv_at hl 2 rfl) ?_
            refine lv_icmp_gt (tgt := 60) hx hb dX8_bestWave_54 (by decide) (fun c_13 => ?_) (fun c_13 => ?_)
            · skip
              refine lv_iload hx hb dX8_bestWave_60 (lv_at hl 0 rfl) ?_
              refine lv_istore_n (lv' := [(3, .int z_6), (5, .int z_6), (4, .int (nI kb)), (2, .int x2), (0, .ref o), (1, .int (nI i))]) hx hb dX8_bestWave_62 rfl hl (by decide) rfl (fun ls hl => ?_)
              refine lv_iload hx hb dX8_bestWave_63 (lv_at hl 2 rfl) ?_
              refine lv_istore_n (lv' := [(2, .int (nI kb)), (3, .int z_6), (5, .int z_6), (4, .int (nI kb)), (0, .ref o), (1, .int (nI i))]) hx hb dX8_bestWave_65 rfl hl (by decide) rfl (fun ls hl => ?_)
              refine lv_iinc (v := (nI (kb + 1))) (lv' := [(4, .int (nI (kb + 1))), (2, .int (nI kb)), (3, .int z_6), (5, .int z_6), (0, .ref o), (1, .int (nI i))]) hx hb dX8_bestWave_66 hl (k := 3) rfl (nI_1 _) (by decide) rfl (fun ls hl => ?_)
              refine lv_goto (tgt := 27) hx hb dX8_bestWave_69 (by decide) ?_
              exact ih_27 (kb + 1) (nI kb) z_6 wq_7 gh_8 gk_9 gr_10 (by omega) (hE.trans (bw_y (by omega) f_11 c_12 c_13)) (by omega) _ _ _ V (lv_sub hl [0, 2, 1, 4, 5] rfl)
            · skip
              refine lv_goto (tgt := 66) hx hb dX8_bestWave_57 (by decide) ?_
              refine lv_iinc (v := (nI (kb + 1))) (lv' := [(4, .int (nI (kb + 1))), (5, .int z_6), (3, .int x3), (2, .int x2), (0, .ref o), (1, .int (nI i))]) hx hb dX8_bestWave_66 hl (k := 1) rfl (nI_1 _) (by decide) rfl (fun ls hl => ?_)
              refine lv_goto (tgt := 27) hx hb dX8_bestWave_69 (by decide) ?_
              exact ih_27 (kb + 1) x2 x3 wq_7 gh_8 gk_9 gr_10 (by omega) (hE.trans (bw_n (by omega) f_11 c_12 c_13)) (by omega) _ _ _ V (lv_sub hl [0, 2, 3, 4, 5] rfl)
          · skip
            refine lv_iload hx hb dX8_bestWave_48 (lv_at hl 1 rfl) ?_
            exact g_iret (Qr := (q_m_bestWave_f T n o le w0 g1 g2 g3 g4 tp w6 w7 w8 w9 w10 w11 w12 w13 w14 g15 w16 g17 w18 w19 g20 w21 g22 g23 g24 w25 w26 w27 g28 g29 w30 g31 g32 g33 fa fh fk fr)) hC V ⟨(Nat.le_of_ble_eq_true rfl), (Nat.le_of_ble_eq_true rfl)⟩ ⟨(nI kb), wq_7, gh_8, gk_9, gr_10, rfl, rfl, (bwa_y f_1 f_2 ei (by omega) (hE.trans (bw_f (by omega) f_11 c_12)))⟩ dX8_bestWave_50
    exact L_4 _ 0 (nI 0) (nI 0) w21 fh fk fr (by omega) rfl (Nat.lt_succ_self _) _ _ _ V (lv_sub hl [0, 1, 2, 3, 4] rfl)
  · have V : gW D T A s [(o, .inr (8, [.int (nI 0), .ref g1, .ref g2, .ref g3, .ref g4, .int (nI tp), .int w6, .int w7, .int w8, .int w9, .int w10, .int w11, .int w12, .int w13, .int w14, .ref g15, .int w16, .ref g17, .int w18, .int w19, .ref g20, .int w21, .ref g22, .ref g23, .ref g24, .int w25, .int w26, .int w27, .ref g28, .ref g29, .int w30, .ref g31, .ref g32, .ref g33])), (g1, .inl (T 0, 282, .inl fa)), (g15, .inl (T 0, 10, .inl fh)), (g17, .inl (T 0, 94, .inl fk)), (g20, .inl (T 1, 10, .inr (.inl fr)))] H locs := V _ [] rfl rfl rfl (by decide +kernel) rfl
    show W p l e _ s m args below meth c H locs _ _ _ (F0 m 14 ls [.int (nI 0)])
    refine lv_if_ne (tgt := 20) hx hb dX8_bestWave_14 (by decide) (fun c => absurd (show (nI 0) = 0 by decide +kernel) c) (fun _ => ?_)
    refine lv_bipush (v := (-3)) hx hb dX8_bestWave_17 (by decide +kernel) ?_
    exact g_iret (Qr := (q_m_bestWave_f T n o le w0 g1 g2 g3 g4 tp w6 w7 w8 w9 w10 w11 w12 w13 w14 g15 w16 g17 w18 w19 g20 w21 g22 g23 g24 w25 w26 w27 g28 g29 w30 g31 g32 g33 fa fh fk fr)) hC V ⟨(Nat.le_of_ble_eq_true rfl), (Nat.le_of_ble_eq_true rfl)⟩ ⟨(-3), w21, fh, fk, fr, rfl, rfl, (bwa_3 f_3)⟩ dX8_bestWave_19
