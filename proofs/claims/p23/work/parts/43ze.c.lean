def q_m_pulling_f (T : Nat → ClassId) (n : Nat) (o : Nat) (t : Nat) (w0 : Int32) (g1 : Nat) (g2 : Nat) (g3 : Nat) (g4 : Nat) (tp : Nat) (w6 : Int32) (w7 : Int32) (w8 : Int32) (w9 : Int32) (w10 : Int32) (w11 : Int32) (w12 : Int32) (w13 : Int32) (w14 : Int32) (g15 : Nat) (w16 : Int32) (g17 : Nat) (w18 : Int32) (w19 : Int32) (g20 : Nat) (w21 : Int32) (g22 : Nat) (g23 : Nat) (g24 : Nat) (w25 : Int32) (w26 : Int32) (w27 : Int32) (g28 : Nat) (g29 : Nat) (w30 : Int32) (g31 : Nat) (g32 : Nat) (g33 : Nat) (fa : Nat → Int32) (fr : Nat → Int64) : Option Value → va_W → Prop := fun rr ww => (∃ (z : Int32), rr = some (.int z) ∧ ww = [(o, .inr (8, [.int w0, .ref g1, .ref g2, .ref g3, .ref g4, .int (nI tp), .int w6, .int w7, .int w8, .int w9, .int w10, .int w11, .int w12, .int w13, .int w14, .ref g15, .int w16, .ref g17, .int w18, .int w19, .ref g20, .int w21, .ref g22, .ref g23, .ref g24, .int w25, .int w26, .int w27, .ref g28, .ref g29, .int w30, .ref g31, .ref g32, .ref g33])), (g1, .inl (T 0, 282, .inl fa)), (g20, .inl (T 1, 10, .inr (.inl fr)))] ∧ PU fr t n z)
set_option maxHeartbeats 4000000 in
set_option maxRecDepth 100000 in
theorem m_pulling_f (l : Launch) (D : va_G) (T : Nat → ClassId) (n : Nat) (o : Nat) (t : Nat) (w0 : Int32) (g1 : Nat) (g2 : Nat) (g3 : Nat) (g4 : Nat) (tp : Nat) (w6 : Int32) (w7 : Int32) (w8 : Int32) (w9 : Int32) (w10 : Int32) (w11 : Int32) (w12 : Int32) (w13 : Int32) (w14 : Int32) (g15 : Nat) (w16 : Int32) (g17 : Nat) (w18 : Int32) (w19 : Int32) (g20 : Nat) (w21 : Int32) (g22 : Nat) (g23 : Nat) (g24 : Nat) (w25 : Int32) (w26 : Int32) (w27 : Int32) (g28 : Nat) (g29 : Nat) (w30 : Int32) (g31 : Nat) (g32 : Nat) (g33 : Nat) (fa : Nat → Int32) (fr : Nat → Int64) (h_a : MI n fa) (h_t : t < 13) : Ct l yX8_pulling cX8_pulling 4 (some .int) 1 0 0 D T [.ref o, .int (nI t)] [(o, .inr (8, [.int w0, .ref g1, .ref g2, .ref g3, .ref g4, .int (nI tp), .int w6, .int w7, .int w8, .int w9, .int w10, .int w11, .int w12, .int w13, .int w14, .ref g15, .int w16, .ref g17, .int w18, .int w19, .ref g20, .int w21, .ref g22, .ref g23, .ref g24, .int w25, .int w26, .int w27, .ref g28, .ref g29, .int w30, .ref g31, .ref g32, .ref g33])), (g1, .inl (T 0, 282, .inl fa)), (g20, .inl (T 1, 10, .inr (.inl fr)))] (q_m_pulling_f T n o t w0 g1 g2 g3 g4 tp w6 w7 w8 w9 w10 w11 w12 w13 w14 g15 w16 g17 w18 w19 g20 w21 g22 g23 g24 w25 w26 w27 g28 g29 w30 g31 g32 g33 fa fr) := by
  refine Ct.of (cc := cX8_pulling) (maxL := 4) (ret := (some .int)) (by decide) (Nat.le_of_ble_eq_true rfl) ?_
  intro p e s m args below meth c A ls hC hnm V hl
  obtain ⟨hx, hb, hr, hml, hown, hts, hlocks⟩ := id hC
  generalize hH : s.heap = H at V ⊢
  clear hH
  have hl : lv_has ls 4 [(0, .ref o), (1, .int (nI t))] := hl
  generalize hlo : ([] : List Loc) = locs at V ⊢
  clear hlo
  have ms0 := ms_rf h_a
  have hn10 := h_a.1
  refine lv_iconst (v := (nI 0)) hx hb dX8_pulling_0 (by decide +kernel) ?_
  refine lv_istore_n (lv' := [(2, .int (nI 0)), (0, .ref o), (1, .int (nI t))]) hx hb dX8_pulling_1 rfl hl (by decide) rfl (fun ls hl => ?_)
  refine lv_iconst (v := (nI 0)) hx hb dX8_pulling_2 (by decide +kernel) ?_
  refine lv_istore_n (lv' := [(3, .int (nI 0)), (2, .int (nI 0)), (0, .ref o), (1, .int (nI t))]) hx hb dX8_pulling_3 rfl hl (by decide) rfl (fun ls hl => ?_)
  have L_1 : ∀ (fu : Nat) (k4 : Nat) (x2 : Int32), k4 ≤ n → PU fr t k4 x2 → n - k4 < fu → ∀ (H : Heap) (locs : List Loc) (ls : Array Slot), gW D T A s [(o, .inr (8, [.int w0, .ref g1, .ref g2, .ref g3, .ref g4, .int (nI tp), .int w6, .int w7, .int w8, .int w9, .int w10, .int w11, .int w12, .int w13, .int w14, .ref g15, .int w16, .ref g17, .int w18, .int w19, .ref g20, .int w21, .ref g22, .ref g23, .ref g24, .int w25, .int w26, .int w27, .ref g28, .ref g29, .int w30, .ref g31, .ref g32, .ref g33])), (g1, .inl (T 0, 282, .inl fa)), (g20, .inl (T 1, 10, .inr (.inl fr)))] H locs → lv_has ls 4 [(3, .int (nI k4)), (2, .int x2), (0, .ref o), (1, .int (nI t))] → W p l e (rmD 1 0 0) s m args below meth c H locs 0 0 (MQ below (gQ D A (q_m_pulling_f T n o t w0 g1 g2 g3 g4 tp w6 w7 w8 w9 w10 w11 w12 w13 w14 g15 w16 g17 w18 w19 g20 w21 g22 g23 g24 w25 w26 w27 g28 g29 w30 g31 g32 g33 fa fr)) args s 0 0 A) (F0 m 4 ls []) := by
    intro fu_4
    induction fu_4 with
    | zero => intro k4 x2 hk4 hx2 hmu; exact absurd hmu (Nat.not_lt_zero _)
    | succ fu_4 ih_4 =>
      intro k4 x2 hk4 hx2 hmu_4 H locs ls V hl
      refine lv_iload_n hx hb dX8_pulling_4 rfl (lv_at hl 0 rfl) ?_
      refine lv_aload_n hx hb dX8_pulling_5 rfl (lv_at hl 2 rfl) ?_
      refine g_get hC V (ci := 8) uwX8 0 rfl rfl 1 (by decide) w_913 rfl rfl dX8_pulling_6 ?_
      refine lv_iconst (v := (nI 0)) hx hb dX8_pulling_9 (by decide +kernel) ?_
      refine g_iald hC V 1 rfl (vp_in_nI (by decide) (by decide)) (v := (nI n)) (by rw [nI_clamp (by decide)]; first | rfl | exact h_a.2.1) dX8_pulling_10 ?_
      refine lv_icmp_ge (tgt := 43) hx hb dX8_pulling_11 (by decide) (fun c_2 => ?_) (fun c_2 => ?_)
      · skip
        have c_2 := b_le (by omega) (by omega) c_2
        refine lv_iload_n hx hb dX8_pulling_43 rfl (lv_at hl 1 rfl) ?_
        exact g_iret (Qr := (q_m_pulling_f T n o t w0 g1 g2 g3 g4 tp w6 w7 w8 w9 w10 w11 w12 w13 w14 g15 w16 g17 w18 w19 g20 w21 g22 g23 g24 w25 w26 w27 g28 g29 w30 g31 g32 g33 fa fr)) hC V ⟨(Nat.le_of_ble_eq_true rfl), (Nat.le_of_ble_eq_true rfl)⟩ ⟨x2, rfl, rfl, (by rw [show n = k4 by omega]; exact hx2)⟩ dX8_pulling_44
      · skip
        have c_2 := b_nle (by omega) (by omega) c_2
        refine lv_iload_n hx hb dX8_pulling_14 rfl (lv_at hl 1 rfl) ?_
        refine lv_aload_n hx hb dX8_pulling_15 rfl (lv_at hl 2 rfl) ?_
        refine g_get hC V (ci := 8) uwX8 0 rfl rfl 20 (by decide) w_932 rfl rfl dX8_pulling_16 ?_
        refine lv_iload_n hx hb dX8_pulling_19 rfl (lv_at hl 0 rfl) ?_
        refine g_lald hC V 2 rfl (vp_in_nI (by omega) (by omega)) (v := (fr k4)) (congrArg _ (nI_clamp (by omega))) dX8_pulling_20 ?_
        refine lv_iload_n hx hb dX8_pulling_21 rfl (lv_at hl 3 rfl) ?_
        refine g_callSU (nA := 2) hC V hl.1 (m_isInL_f l D T (fr k4) t) w_1130 w_1131 w_9 w_1132 (by decide +kernel) rfl ⟨(Nat.le_of_ble_eq_true rfl), (Nat.le_of_ble_eq_true rfl)⟩ [] rfl rfl (Nat.le_of_ble_eq_true rfl) dX8_pulling_22 ⟨(Nat.le_of_ble_eq_true rfl), (Nat.le_of_ble_eq_true rfl)⟩ rfl (fun r w1 H locs hQ V => ?_)
        rcases hQ with ⟨rfl, rfl, f_3⟩ | ⟨rfl, rfl, f_4⟩
        · have V : gW D T A s [(o, .inr (8, [.int w0, .ref g1, .ref g2, .ref g3, .ref g4, .int (nI tp), .int w6, .int w7, .int w8, .int w9, .int w10, .int w11, .int w12, .int w13, .int w14, .ref g15, .int w16, .ref g17, .int w18, .int w19, .ref g20, .int w21, .ref g22, .ref g23, .ref g24, .int w25, .int w26, .int w27, .ref g28, .ref g29, .int w30, .ref g31, .ref g32, .ref g33])), (g1, .inl (T 0, 282, .inl fa)), (g20, .inl (T 1, 10, .inr (.inl fr)))] H locs := V _ [] rfl rfl rfl (by decide +kernel) rfl
          show W p l e _ s m args below meth c H locs _ _ _ (F0 m 25 ls [.int (nI 1), .int x2])
          refine lv_if_eq (tgt := 34) hx hb dX8_pulling_25 (by decide) (fun c => absurd (show (nI 1) = 0 from c) (by decide +kernel)) (fun _ => ?_)
          refine lv_iconst (v := (nI 1)) hx hb dX8_pulling_28 (by decide +kernel) ?_
          refine lv_iload_n hx hb dX8_pulling_29 rfl (lv_at hl 0 rfl) ?_
          refine lv_ishl hx hb dX8_pulling_30 ?_
          refine lv_goto (tgt := 35) hx hb dX8_pulling_31 (by decide) ?_
          refine lv_ior hx hb dX8_pulling_35 ?_
          refine lv_istore_n (lv' := [(2, .int (x2 ||| ((nI 1) <<< ((nI k4) &&& 31)))), (3, .int (nI k4)), (0, .ref o), (1, .int (nI t))]) hx hb dX8_pulling_36 rfl hl (by decide) rfl (fun ls hl => ?_)
          refine lv_iinc (v := (nI (k4 + 1))) (lv' := [(3, .int (nI (k4 + 1))), (2, .int (x2 ||| ((nI 1) <<< ((nI k4) &&& 31)))), (0, .ref o), (1, .int (nI t))]) hx hb dX8_pulling_37 hl (k := 1) rfl (nI_1 _) (by decide) rfl (fun ls hl => ?_)
          refine lv_goto (tgt := 4) hx hb dX8_pulling_40 (by decide) ?_
          exact ih_4 (k4 + 1) (x2 ||| ((nI 1) <<< ((nI k4) &&& 31))) (by omega) (pl_y hx2 (by omega) f_3) (by omega) _ _ _ V (lv_sub hl [0, 1, 2, 3] rfl)
        · have V : gW D T A s [(o, .inr (8, [.int w0, .ref g1, .ref g2, .ref g3, .ref g4, .int (nI tp), .int w6, .int w7, .int w8, .int w9, .int w10, .int w11, .int w12, .int w13, .int w14, .ref g15, .int w16, .ref g17, .int w18, .int w19, .ref g20, .int w21, .ref g22, .ref g23, .ref g24, .int w25, .int w26, .int w27, .ref g28, .ref g29, .int w30, .ref g31, .ref g32, .ref g33])), (g1, .inl (T 0, 282, .inl fa)), (g20, .inl (T 1, 10, .inr (.inl fr)))] H locs := V _ [] rfl rfl rfl (by decide +kernel) rfl
          show W p l e _ s m args below meth c H locs _ _ _ (F0 m 25 ls [.int (nI 0), .int x2])
          refine lv_if_eq (tgt := 34) hx hb dX8_pulling_25 (by decide) (fun _ => ?_) (fun c => absurd (show (nI 0) = 0 by decide +kernel) c)
          refine lv_iconst (v := (nI 0)) hx hb dX8_pulling_34 (by decide +kernel) ?_
          refine lv_ior hx hb dX8_pulling_35 ?_
          refine lv_istore_n (lv' := [(2, .int (x2 ||| (nI 0))), (3, .int (nI k4)), (0, .ref o), (1, .int (nI t))]) hx hb dX8_pulling_36 rfl hl (by decide) rfl (fun ls hl => ?_)
          refine lv_iinc (v := (nI (k4 + 1))) (lv' := [(3, .int (nI (k4 + 1))), (2, .int (x2 ||| (nI 0))), (0, .ref o), (1, .int (nI t))]) hx hb dX8_pulling_37 hl (k := 1) rfl (nI_1 _) (by decide) rfl (fun ls hl => ?_)
          refine lv_goto (tgt := 4) hx hb dX8_pulling_40 (by decide) ?_
          exact ih_4 (k4 + 1) (x2 ||| (nI 0)) (by omega) (pl_n hx2 (by omega) f_4) (by omega) _ _ _ V (lv_sub hl [0, 1, 2, 3] rfl)
  exact L_1 _ 0 (nI 0) (by omega) pl_0 (Nat.lt_succ_self _) _ _ _ V (lv_sub hl [0, 1, 2, 3] rfl)

def q_m_holdsBy_f (T : Nat → ClassId) (PP : Nat → Int32) (n : Nat) (o : Nat) (le : Nat) (w0 : Int32) (g1 : Nat) (g2 : Nat) (g3 : Nat) (g4 : Nat) (tp : Nat) (w6 : Int32) (w7 : Int32) (w8 : Int32) (w9 : Int32) (w10 : Int32) (w11 : Int32) (w12 : Int32) (w13 : Int32) (w14 : Int32) (g15 : Nat) (w16 : Int32) (g17 : Nat) (w18 : Int32) (w19 : Int32) (g20 : Nat) (w21 : Int32) (g22 : Nat) (g23 : Nat) (g24 : Nat) (w25 : Int32) (w26 : Int32) (w27 : Int32) (g28 : Nat) (g29 : Nat) (w30 : Int32) (g31 : Nat) (g32 : Nat) (g33 : Nat) (fa : Nat → Int32) (fh : Nat → Int32) (fk : Nat → Int32) (fr : Nat → Int64) : Option Value → va_W → Prop := fun rr ww => (∃ (z : Int32) (wq : Int32) (gh : Nat → Int32) (gk : Nat → Int32), rr = some (.int z) ∧ ww = [(o, .inr (8, [.int w0, .ref g1, .ref g2, .ref g3, .ref g4, .int (nI tp), .int w6, .int w7, .int w8, .int w9, .int w10, .int w11, .int w12, .int w13, .int w14, .ref g15, .int w16, .ref g17, .int w18, .int w19, .ref g20, .int wq, .ref g22, .ref g23, .ref g24, .int w25, .int w26, .int w27, .ref g28, .ref g29, .int w30, .ref g31, .ref g32, .ref g33])), (g1, .inl (T 0, 282, .inl fa)), (g15, .inl (T 0, 10, .inl gh)), (g17, .inl (T 0, 94, .inl gk)), (g20, .inl (T 1, 10, .inr (.inl fr)))] ∧ HO n fa PP le n z wq)
set_option maxHeartbeats 4000000 in
set_option maxRecDepth 100000 in
theorem m_holdsBy_f (l : Launch) (D : va_G) (T : Nat → ClassId) (PP : Nat → Int32) (n : Nat) (o : Nat) (le : Nat) (w0 : Int32) (g1 : Nat) (g2 : Nat) (g3 : Nat) (g4 : Nat) (tp : Nat) (w6 : Int32) (w7 : Int32) (w8 : Int32) (w9 : Int32) (w10 : Int32) (w11 : Int32) (w12 : Int32) (w13 : Int32) (w14 : Int32) (g15 : Nat) (w16 : Int32) (g17 : Nat) (w18 : Int32) (w19 : Int32) (g20 : Nat) (w21 : Int32) (g22 : Nat) (g23 : Nat) (g24 : Nat) (w25 : Int32) (w26 : Int32) (w27 : Int32) (g28 : Nat) (g29 : Nat) (w30 : Int32) (g31 : Nat) (g32 : Nat) (g33 : Nat) (fa : Nat → Int32) (fh : Nat → Int32) (fk : Nat → Int32) (fr : Nat → Int64) (h_a : MI n fa) (h_l : 1 ≤ le ∧ le ≤ 12) (h_lb : LB fa) (h_pp : ∀ k, k < n → ∀ t, t < le → (lbP (fr k) t ↔ bitP (PP k) t)) : Ct l yX8_holdsBy cX8_holdsBy 6 (some .int) 3 0 0 D T [.ref o, .int (nI le)] [(o, .inr (8, [.int w0, .ref g1, .ref g2, .ref g3, .ref g4, .int (nI tp), .int w6, .int w7, .int w8, .int w9, .int w10, .int w11, .int w12, .int w13, .int w14, .ref g15, .int w16, .ref g17, .int w18, .int w19, .ref g20, .int w21, .ref g22, .ref g23, .ref g24, .int w25, .int w26, .int w27, .ref g28, .ref g29, .int w30, .ref g31, .ref g32, .ref g33])), (g1, .inl (T 0, 282, .inl fa)), (g15, .inl (T 0, 10, .inl fh)), (g17, .inl (T 0, 94, .inl fk)), (g20, .inl (T 1, 10, .inr (.inl fr)))] (q_m_holdsBy_f T PP n o le w0 g1 g2 g3 g4 tp w6 w7 w8 w9 w10 w11 w12 w13 w14 g15 w16 g17 w18 w19 g20 w21 g22 g23 g24 w25 w26 w27 g28 g29 w30 g31 g32 g33 fa fh fk fr) := by
  refine Ct.of (cc := cX8_holdsBy) (maxL := 6) (ret := (some .int)) (by decide) (Nat.le_of_ble_eq_true rfl) ?_
  intro p e s m args below meth c A ls hC hnm V hl
  obtain ⟨hx, hb, hr, hml, hown, hts, hlocks⟩ := id hC
  generalize hH : s.heap = H at V ⊢
  clear hH
  have hl : lv_has ls 6 [(0, .ref o), (1, .int (nI le))] := hl
  generalize hlo : ([] : List Loc) = locs at V ⊢
  clear hlo
  have ms0 := ms_rf h_a
  have hn10 := h_a.1
  refine lv_aload_n hx hb dX8_holdsBy_0 rfl (lv_at hl 0 rfl) ?_
  refine g_callVU (nA := 0) hC V hl.1 (m_keeps l D T o w0 g1 g2 g3 g4 tp w6 w7 w8 w9 w10 w11 w12 w13 w14 g15 w16 g17 w18 w19 g20 w21 g22 g23 g24 w25 w26 w27 g28 g29 w30 g31 g32 g33 fa fk) w_1146 w_1148 w_s53 w_9 w_1149 (by decide +kernel) rfl ⟨(Nat.le_of_ble_eq_true rfl), (Nat.le_of_ble_eq_true rfl)⟩ 0 (ci := 8) rfl rfl [0, 1, 3] rfl rfl (Nat.le_of_ble_eq_true rfl) dX8_holdsBy_1 ⟨(Nat.le_of_ble_eq_true rfl), (Nat.le_of_ble_eq_true rfl)⟩ rfl (fun r w1 H locs hQ V => ?_)
  obtain ⟨gk_1, rfl, rfl, f_2⟩ := hQ
  have V : gW D T A s [(o, .inr (8, [.int w0, .ref g1, .ref g2, .ref g3, .ref g4, .int (nI tp), .int w6, .int w7, .int w8, .int w9, .int w10, .int w11, .int w12, .int w13, .int w14, .ref g15, .int w16, .ref g17, .int w18, .int w19, .ref g20, .int w21, .ref g22, .ref g23, .ref g24, .int w25, .int w26, .int w27, .ref g28, .ref g29, .int w30, .ref g31, .ref g32, .ref g33])), (g1, .inl (T 0, 282, .inl fa)), (g15, .inl (T 0, 10, .inl fh)), (g17, .inl (T 0, 94, .inl gk_1)), (g20, .inl (T 1, 10, .inr (.inl fr)))] H locs := V _ [0, 0, 1] rfl rfl rfl (by decide +kernel) rfl
  show W p l e _ s m args below meth c H locs _ _ _ (F0 m 4 ls [])
  refine lv_iconst (v := (-1)) hx hb dX8_holdsBy_4 (by decide +kernel) ?_
  refine lv_istore_n (lv' := [(2, .int (-1)), (0, .ref o), (1, .int (nI le))]) hx hb dX8_holdsBy_5 rfl hl (by decide) rfl (fun ls hl => ?_)
  refine lv_aload_n hx hb dX8_holdsBy_6 rfl (lv_at hl 1 rfl) ?_
  refine lv_iconst (v := (-1)) hx hb dX8_holdsBy_7 (by decide +kernel) ?_
  refine g_put hC V (ci := 8) uwX8 tyX8 tyX8_ok nmX8 0 rfl rfl 21 (by decide) w_933 rfl rfl rfl rfl (Nat.le_of_ble_eq_true rfl) (ws' := [(o, .inr (8, [.int w0, .ref g1, .ref g2, .ref g3, .ref g4, .int (nI tp), .int w6, .int w7, .int w8, .int w9, .int w10, .int w11, .int w12, .int w13, .int w14, .ref g15, .int w16, .ref g17, .int w18, .int w19, .ref g20, .int (-1), .ref g22, .ref g23, .ref g24, .int w25, .int w26, .int w27, .ref g28, .ref g29, .int w30, .ref g31, .ref g32, .ref g33])), (g1, .inl (T 0, 282, .inl fa)), (g15, .inl (T 0, 10, .inl fh)), (g17, .inl (T 0, 94, .inl gk_1)), (g20, .inl (T 1, 10, .inr (.inl fr)))]) rfl dX8_holdsBy_8 (fun H locs V => ?_)
  refine lv_iconst (v := (nI 0)) hx hb dX8_holdsBy_11 (by decide +kernel) ?_
  refine lv_istore_n (lv' := [(3, .int (nI 0)), (2, .int (-1)), (0, .ref o), (1, .int (nI le))]) hx hb dX8_holdsBy_12 rfl hl (by decide) rfl (fun ls hl => ?_)
  have L_3 : ∀ (fu : Nat) (k13 : Nat) (x2 : Int32) (wv : Int32) (th : Nat → Int32) (f13 : Nat → Int32), k13 ≤ 201 * le + 2 → MS n fa f13 → (∀ j, (j < 24 ∨ 34 ≤ j) → f13 j = fa j) → (∀ i, i < n → f13 (24 + i) = hsF n fa PP le i k13) → TO n fa PP le k13 x2 wv → 201 * le + 2 - k13 < fu → ∀ (H : Heap) (locs : List Loc) (ls : Array Slot), gW D T A s [(o, .inr (8, [.int w0, .ref g1, .ref g2, .ref g3, .ref g4, .int (nI tp), .int w6, .int w7, .int w8, .int w9, .int w10, .int w11, .int w12, .int w13, .int w14, .ref g15, .int w16, .ref g17, .int w18, .int w19, .ref g20, .int wv, .ref g22, .ref g23, .ref g24, .int w25, .int w26, .int w27, .ref g28, .ref g29, .int w30, .ref g31, .ref g32, .ref g33])), (g1, .inl (T 0, 282, .inl f13)), (g15, .inl (T 0, 10, .inl th)), (g17, .inl (T 0, 94, .inl gk_1)), (g20, .inl (T 1, 10, .inr (.inl fr)))] H locs → lv_has ls 6 [(3, .int (nI k13)), (2, .int x2), (0, .ref o), (1, .int (nI le))] → W p l e (rmD 3 0 0) s m args below meth c H locs 0 0 (MQ below (gQ D A (q_m_holdsBy_f T PP n o le w0 g1 g2 g3 g4 tp w6 w7 w8 w9 w10 w11 w12 w13 w14 g15 w16 g17 w18 w19 g20 w21 g22 g23 g24 w25 w26 w27 g28 g29 w30 g31 g32 g33 fa fh fk fr)) args s 0 0 A) (F0 m 13 ls []) := by
    intro fu_13
    induction fu_13 with
    | zero => intro k13 x2 wv th f13 hk13 hf13 hA13 hB13 hTO hmu; exact absurd hmu (Nat.not_lt_zero _)
    | succ fu_13 ih_13 =>
      intro k13 x2 wv th f13 hk13 hf13 hA13 hB13 hTO hmu_13 H locs ls V hl
      refine lv_iload_n hx hb dX8_holdsBy_13 rfl (lv_at hl 0 rfl) ?_
      refine lv_sipush (v := (nI 201)) hx hb dX8_holdsBy_14 (by decide +kernel) ?_
      refine lv_iload_n hx hb dX8_holdsBy_17 rfl (lv_at hl 3 rfl) ?_
      refine lv_imul hx hb dX8_holdsBy_18 ?_
      refine g_vi (y := (nI (201 * le))) (pk_mul _ _) ?_
      refine lv_iconst (v := (nI 2)) hx hb dX8_holdsBy_19 (by decide +kernel) ?_
      refine lv_iadd hx hb dX8_holdsBy_20 ?_
      refine g_vi (y := (nI ((201 * le) + 2))) (nI_add _ _) ?_
      refine lv_icmp_ge (tgt := 140) hx hb dX8_holdsBy_21 (by decide) (fun c_4 => ?_) (fun c_4 => ?_)
      · skip
        have c_4 := b_le (by omega) (by omega) c_4
        refine lv_aload_n hx hb dX8_holdsBy_140 rfl (lv_at hl 2 rfl) ?_
        refine g_callVU (nA := 0) hC V hl.1 (m_isAgain l D T o w0 g1 g2 g3 g4 tp w6 w7 w8 w9 w10 w11 w12 w13 w14 g15 w16 g17 w18 w19 g20 wv g22 g23 g24 w25 w26 w27 g28 g29 w30 g31 g32 g33 f13 gk_1) w_1162 w_1164 w_s57 w_9 w_1165 (by decide +kernel) rfl ⟨(Nat.le_of_ble_eq_true rfl), (Nat.le_of_ble_eq_true rfl)⟩ 0 (ci := 8) rfl rfl [0, 1, 3] rfl rfl (Nat.le_of_ble_eq_true rfl) dX8_holdsBy_141 ⟨(Nat.le_of_ble_eq_true rfl), (Nat.le_of_ble_eq_true rfl)⟩ rfl (fun r w1 H locs hQ V => ?_)
        obtain ⟨ga_5, rfl, rfl, f_6, f_7⟩ := hQ
        have V : gW D T A s [(o, .inr (8, [.int w0, .ref g1, .ref g2, .ref g3, .ref g4, .int (nI tp), .int w6, .int w7, .int w8, .int w9, .int w10, .int w11, .int w12, .int w13, .int w14, .ref g15, .int w16, .ref g17, .int w18, .int w19, .ref g20, .int wv, .ref g22, .ref g23, .ref g24, .int w25, .int w26, .int w27, .ref g28, .ref g29, .int w30, .ref g31, .ref g32, .ref g33])), (g1, .inl (T 0, 282, .inl ga_5)), (g15, .inl (T 0, 10, .inl th)), (g17, .inl (T 0, 94, .inl gk_1)), (g20, .inl (T 1, 10, .inr (.inl fr)))] H locs := V _ [0, 0, 1] rfl rfl rfl (by decide +kernel) rfl
        show W p l e _ s m args below meth c H locs _ _ _ (F0 m 144 ls [])
        have ega_5 : ga_5 = fa := funext (fun j => if h : j < 94 then (f_6 j h).trans (f_2 j h) else (f_7 j (by omega)).trans ((by assumption : MS n fa _).2 j (by omega)))
        rw [ega_5] at V
        refine lv_iload_n hx hb dX8_holdsBy_144 rfl (lv_at hl 1 rfl) ?_
        exact g_iret (Qr := (q_m_holdsBy_f T PP n o le w0 g1 g2 g3 g4 tp w6 w7 w8 w9 w10 w11 w12 w13 w14 g15 w16 g17 w18 w19 g20 w21 g22 g23 g24 w25 w26 w27 g28 g29 w30 g31 g32 g33 fa fh fk fr)) hC V ⟨(Nat.le_of_ble_eq_true rfl), (Nat.le_of_ble_eq_true rfl)⟩ ⟨x2, wv, th, gk_1, rfl, rfl, (to_f h_a h_lb (by omega) hTO (Or.inr (by omega)))⟩ dX8_holdsBy_145
      · skip
        have c_4 := b_nle (by omega) (by omega) c_4
        refine lv_iload_n hx hb dX8_holdsBy_24 rfl (lv_at hl 1 rfl) ?_
        refine lv_iconst (v := (-1)) hx hb dX8_holdsBy_25 (by decide +kernel) ?_
        refine lv_icmp_ne (tgt := 140) hx hb dX8_holdsBy_26 (by decide) (fun c_8 => ?_) (fun c_8 => ?_)
        · skip
          refine lv_aload_n hx hb dX8_holdsBy_140 rfl (lv_at hl 2 rfl) ?_
          refine g_callVU (nA := 0) hC V hl.1 (m_isAgain l D T o w0 g1 g2 g3 g4 tp w6 w7 w8 w9 w10 w11 w12 w13 w14 g15 w16 g17 w18 w19 g20 wv g22 g23 g24 w25 w26 w27 g28 g29 w30 g31 g32 g33 f13 gk_1) w_1162 w_1164 w_s57 w_9 w_1165 (by decide +kernel) rfl ⟨(Nat.le_of_ble_eq_true rfl), (Nat.le_of_ble_eq_true rfl)⟩ 0 (ci := 8) rfl rfl [0, 1, 3] rfl rfl (Nat.le_of_ble_eq_true rfl) dX8_holdsBy_141 ⟨(Nat.le_of_ble_eq_true rfl), (Nat.le_of_ble_eq_true rfl)⟩ rfl (fun r w1 H locs hQ V => ?_)
          obtain ⟨ga_9, rfl, rfl, f_10, f_11⟩ := hQ
          have V : gW D T A s [(o, .inr (8, [.int w0, .ref g1, .ref g2, .ref g3, .ref g4, .int (nI tp), .int w6, .int w7, .int w8, .int w9, .int w10, .int w11, .int w12, .int w13, .int w14, .ref g15, .int w16, .ref g17, .int w18, .int w19, .ref g20, .int wv, .ref g22, .ref g23, .ref g24, .int w25, .int w26, .int w27, .ref g28, .ref g29, .int w30, .ref g31, .ref g32, .ref g33])), (g1, .inl (T 0, 282, .inl ga_9)), (g15, .inl (T 0, 10, .inl th)), (g17, .inl (T 0, 94, .inl gk_1)), (g20, .inl (T 1, 10, .inr (.inl fr)))] H locs := V _ [0, 0, 1] rfl rfl rfl (by decide +kernel) rfl
          show W p l e _ s m args below meth c H locs _ _ _ (F0 m 144 ls [])
          have ega_9 : ga_9 = fa := funext (fun j => if h : j < 94 then (f_10 j h).trans (f_2 j h) else (f_11 j (by omega)).trans ((by assumption : MS n fa _).2 j (by omega)))
          rw [ega_9] at V
          refine lv_iload_n hx hb dX8_holdsBy_144 rfl (lv_at hl 1 rfl) ?_
          exact g_iret (Qr := (q_m_holdsBy_f T PP n o le w0 g1 g2 g3 g4 tp w6 w7 w8 w9 w10 w11 w12 w13 w14 g15 w16 g17 w18 w19 g20 w21 g22 g23 g24 w25 w26 w27 g28 g29 w30 g31 g32 g33 fa fh fk fr)) hC V ⟨(Nat.le_of_ble_eq_true rfl), (Nat.le_of_ble_eq_true rfl)⟩ ⟨x2, wv, th, gk_1, rfl, rfl, (to_f h_a h_lb (by omega) hTO (Or.inl c_8))⟩ dX8_holdsBy_145
        · skip
          have hxn := c_8
          refine lv_aload_n hx hb dX8_holdsBy_29 rfl (lv_at hl 2 rfl) ?_
          refine lv_iload_n hx hb dX8_holdsBy_30 rfl (lv_at hl 0 rfl) ?_
          refine lv_iload_n hx hb dX8_holdsBy_31 rfl (lv_at hl 3 rfl) ?_
          refine lv_irem hx hb dX8_holdsBy_32 (nI_ne0 (by omega) (by omega)) ?_
          refine g_vi (y := (nI (k13 % le))) (nI_rem (by omega) (by omega)) ?_
          refine g_callVU (nA := 1) hC V hl.1 (m_pulling_f l D T n o (k13 % le) w0 g1 g2 g3 g4 tp w6 w7 w8 w9 w10 w11 w12 w13 w14 g15 w16 g17 w18 w19 g20 wv g22 g23 g24 w25 w26 w27 g28 g29 w30 g31 g32 g33 f13 fr hf13.1 (by have := Nat.mod_lt k13 (show 0 < le by omega); omega)) w_1233 w_1235 w_s65 w_9 w_1236 (by decide +kernel) rfl ⟨(Nat.le_of_ble_eq_true rfl), (Nat.le_of_ble_eq_true rfl)⟩ 0 (ci := 8) rfl rfl [0, 1, 4] rfl rfl (Nat.le_of_ble_eq_true rfl) dX8_holdsBy_33 ⟨(Nat.le_of_ble_eq_true rfl), (Nat.le_of_ble_eq_true rfl)⟩ rfl (fun r w1 H locs hQ V => ?_)
          obtain ⟨z_12, rfl, rfl, f_13⟩ := hQ
          have V : gW D T A s [(o, .inr (8, [.int w0, .ref g1, .ref g2, .ref g3, .ref g4, .int (nI tp), .int w6, .int w7, .int w8, .int w9, .int w10, .int w11, .int w12, .int w13, .int w14, .ref g15, .int w16, .ref g17, .int w18, .int w19, .ref g20, .int wv, .ref g22, .ref g23, .ref g24, .int w25, .int w26, .int w27, .ref g28, .ref g29, .int w30, .ref g31, .ref g32, .ref g33])), (g1, .inl (T 0, 282, .inl f13)), (g15, .inl (T 0, 10, .inl th)), (g17, .inl (T 0, 94, .inl gk_1)), (g20, .inl (T 1, 10, .inr (.inl fr)))] H locs := V _ [0, 0, 2] rfl rfl rfl (by decide +kernel) rfl
          show W p l e _ s m args below meth c H locs _ _ _ (F0 m 36 ls [.int z_12])
          have hbit : ∀ k, k < n → (bitP z_12 k ↔ bitP (PP k) (k13 % le)) := fun k hk => (f_13.1 k hk).trans (h_pp k hk _ (Nat.mod_lt _ (by omega)))
          refine lv_istore (lv' := [(4, .int z_12), (3, .int (nI k13)), (2, .int x2), (0, .ref o), (1, .int (nI le))]) hx hb dX8_holdsBy_36 hl (by decide) rfl (fun ls hl => ?_)
          refine lv_iconst (v := (nI 0)) hx hb dX8_holdsBy_38 (by decide +kernel) ?_
          refine lv_istore (lv' := [(5, .int (nI 0)), (4, .int z_12), (3, .int (nI k13)), (2, .int x2), (0, .ref o), (1, .int (nI le))]) hx hb dX8_holdsBy_39 hl (by decide) rfl (fun ls hl => ?_)
          have L_14 : ∀ (fu : Nat) (k41 : Nat) (th2 : Nat → Int32), k41 ≤ n → (∀ i, i < k41 → bd (th2 i) 201) → (∀ i, i < k41 → th2 i = hsF n fa PP le i (k13 + 1)) → n - k41 < fu → ∀ (H : Heap) (locs : List Loc) (ls : Array Slot), gW D T A s [(o, .inr (8, [.int w0, .ref g1, .ref g2, .ref g3, .ref g4, .int (nI tp), .int w6, .int w7, .int w8, .int w9, .int w10, .int w11, .int w12, .int w13, .int w14, .ref g15, .int w16, .ref g17, .int w18, .int w19, .ref g20, .int wv, .ref g22, .ref g23, .ref g24, .int w25, .int w26, .int w27, .ref g28, .ref g29, .int w30, .ref g31, .ref g32, .ref g33])), (g1, .inl (T 0, 282, .inl f13)), (g15, .inl (T 0, 10, .inl th2)), (g17, .inl (T 0, 94, .inl gk_1)), (g20, .inl (T 1, 10, .inr (.inl fr)))] H locs → lv_has ls 6 [(5, .int (nI k41)), (4, .int z_12), (3, .int (nI k13)), (2, .int x2), (0, .ref o), (1, .int (nI le))] → W p l e (rmD 3 0 0) s m args below meth c H locs 0 0 (MQ below (gQ D A (q_m_holdsBy_f T PP n o le w0 g1 g2 g3 g4 tp w6 w7 w8 w9 w10 w11 w12 w13 w14 g15 w16 g17 w18 w19 g20 w21 g22 g23 g24 w25 w26 w27 g28 g29 w30 g31 g32 g33 fa fh fk fr)) args s 0 0 A) (F0 m 41 ls []) := by
            intro fu_41
            induction fu_41 with
            | zero => intro k41 th2 hk41 ht2 hT2 hmu; exact absurd hmu (Nat.not_lt_zero _)
            | succ fu_41 ih_41 =>
              intro k41 th2 hk41 ht2 hT2 hmu_41 H locs ls V hl
              refine lv_iload hx hb dX8_holdsBy_41 (lv_at hl 0 rfl) ?_
              refine lv_aload_n hx hb dX8_holdsBy_43 rfl (lv_at hl 4 rfl) ?_
              refine g_get hC V (ci := 8) uwX8 0 rfl rfl 1 (by decide) w_913 rfl rfl dX8_holdsBy_44 ?_
              refine lv_iconst (v := (nI 0)) hx hb dX8_holdsBy_47 (by decide +kernel) ?_
              refine g_iald hC V 1 rfl (vp_in_nI (by decide) (by decide)) (v := (nI n)) (by rw [nI_clamp (by decide)]; first | rfl | exact h_a.2.1 | exact hf13.1.2.1 | exact hf84.1.2.1) dX8_holdsBy_48 ?_
              refine lv_icmp_ge (tgt := 74) hx hb dX8_holdsBy_49 (by decide) (fun c_15 => ?_) (fun c_15 => ?_)
              · skip
                have c_15 := b_le (by omega) (by omega) c_15
                have hth2 : ∀ i, i < n → bd (th2 i) 201 := fun i h => ht2 i (by omega)
                have hTn : ∀ i, i < n → th2 i = hsF n fa PP le i (k13 + 1) := fun i h => hT2 i (by omega)
                refine lv_aload_n hx hb dX8_holdsBy_74 rfl (lv_at hl 4 rfl) ?_
                refine g_get hC V (ci := 8) uwX8 0 rfl rfl 1 (by decide) w_913 rfl rfl dX8_holdsBy_75 ?_
                refine lv_iconst (v := (nI 0)) hx hb dX8_holdsBy_78 (by decide +kernel) ?_
                refine g_iald hC V 1 rfl (vp_in_nI (by decide) (by decide)) (v := (nI n)) (by rw [nI_clamp (by decide)]; first | rfl | exact h_a.2.1 | exact hf13.1.2.1 | exact hf84.1.2.1) dX8_holdsBy_79 ?_
                refine lv_iconst (v := (nI 1)) hx hb dX8_holdsBy_80 (by decide +kernel) ?_
                refine lv_isub hx hb dX8_holdsBy_81 ?_
                refine lv_istore (lv' := [(5, .int ((nI n) - (nI 1))), (4, .int z_12), (3, .int (nI k13)), (2, .int x2), (0, .ref o), (1, .int (nI le))]) hx hb dX8_holdsBy_82 hl (by decide) rfl (fun ls hl => ?_)
                have L_16 : ∀ (fu : Nat) (iv : Int32) (x84 : Int32) (wv2 : Int32) (f84 : Nat → Int32) (kd : Nat), MS n fa f84 → iv = nI kd - nI 1 → kd ≤ n → (∀ j, (j < 24 ∨ 34 ≤ j) → f84 j = fa j) → (∀ i, kd ≤ i → i < n → f84 (24 + i) = hsF n fa PP le i (k13 + 1)) → DW n fa PP le k13 kd x84 wv2 → kd < fu → ∀ (H : Heap) (locs : List Loc) (ls : Array Slot), gW D T A s [(o, .inr (8, [.int w0, .ref g1, .ref g2, .ref g3, .ref g4, .int (nI tp), .int w6, .int w7, .int w8, .int w9, .int w10, .int w11, .int w12, .int w13, .int w14, .ref g15, .int w16, .ref g17, .int w18, .int w19, .ref g20, .int wv2, .ref g22, .ref g23, .ref g24, .int w25, .int w26, .int w27, .ref g28, .ref g29, .int w30, .ref g31, .ref g32, .ref g33])), (g1, .inl (T 0, 282, .inl f84)), (g15, .inl (T 0, 10, .inl th2)), (g17, .inl (T 0, 94, .inl gk_1)), (g20, .inl (T 1, 10, .inr (.inl fr)))] H locs → lv_has ls 6 [(5, .int iv), (4, .int z_12), (3, .int (nI k13)), (2, .int x84), (0, .ref o), (1, .int (nI le))] → W p l e (rmD 3 0 0) s m args below meth c H locs 0 0 (MQ below (gQ D A (q_m_holdsBy_f T PP n o le w0 g1 g2 g3 g4 tp w6 w7 w8 w9 w10 w11 w12 w13 w14 g15 w16 g17 w18 w19 g20 w21 g22 g23 g24 w25 w26 w27 g28 g29 w30 g31 g32 g33 fa fh fk fr)) args s 0 0 A) (F0 m 84 ls []) := by
                  intro fu_84
                  induction fu_84 with
                  | zero => intro iv x84 wv2 f84 kd hf84 hiv hkd hA84 hB84 hD84 hmu; exact absurd hmu (Nat.not_lt_zero _)
                  | succ fu_84 ih_84 =>
                    intro iv x84 wv2 f84 kd hf84 hiv hkd hA84 hB84 hD84 hmu_84 H locs ls V hl
                    refine lv_iload hx hb dX8_holdsBy_84 (lv_at hl 0 rfl) ?_
                    refine lv_if_lt (tgt := 134) hx hb dX8_holdsBy_86 (by decide) (fun c_17 => ?_) (fun c_17 => ?_)
                    · skip
                      have hk0 := dn_0 hiv (by omega) c_17
                      refine lv_iinc (v := (nI (k13 + 1))) (lv' := [(3, .int (nI (k13 + 1))), (5, .int iv), (4, .int z_12), (2, .int x84), (0, .ref o), (1, .int (nI le))]) hx hb dX8_holdsBy_134 hl (k := 2) rfl (nI_1 _) (by decide) rfl (fun ls hl => ?_)
                      refine lv_goto (tgt := 13) hx hb dX8_holdsBy_137 (by decide) ?_
                      exact ih_13 (k13 + 1) x84 wv2 th2 f84 (by omega) (by assumption) hA84 (fun i hi => hB84 i (by omega) hi) (dw_e hD84 hk0 (by omega) (to_nv hTO hxn)) (by omega) _ _ _ V (lv_sub hl [0, 3, 4, 5] rfl)
                    · skip
                      obtain ⟨h1kd, ekd⟩ := dn_pos hiv (by omega) c_17
                      rw [ekd] at hl
                      refine lv_aload_n hx hb dX8_holdsBy_89 rfl (lv_at hl 4 rfl) ?_
                      refine g_get hC V (ci := 8) uwX8 0 rfl rfl 1 (by decide) w_913 rfl rfl dX8_holdsBy_90 ?_
                      refine lv_bipush (v := (nI 24)) hx hb dX8_holdsBy_93 (by decide +kernel) ?_
                      refine lv_iload hx hb dX8_holdsBy_95 (lv_at hl 0 rfl) ?_
                      refine lv_iadd hx hb dX8_holdsBy_97 ?_
                      refine g_vi (y := (nI (24 + (kd - 1)))) (nI_add _ _) ?_
                      refine lv_aload_n hx hb dX8_holdsBy_98 rfl (lv_at hl 4 rfl) ?_
                      refine g_get hC V (ci := 8) uwX8 0 rfl rfl 15 (by decide) w_927 rfl rfl dX8_holdsBy_99 ?_
                      refine lv_iload hx hb dX8_holdsBy_102 (lv_at hl 0 rfl) ?_
                      obtain ⟨j_18, hj_18, ej_18⟩ := bd_ex (hth2 (kd - 1) (by omega))
                      refine g_iald hC V 2 rfl (vp_in_nI (by omega) (by omega)) (v := (nI j_18)) (by rw [nI_clamp (by omega)]; exact ej_18) dX8_holdsBy_104 ?_
                      obtain ⟨f_19, ef_19⟩ : ∃ x, x = upd f84 (24 + (kd - 1)) (nI j_18) := ⟨_, rfl⟩
                      have hf_19 : MS n fa f_19 := by rw [ef_19]; exact ms_st (by assumption) (by omega) (by omega) (by intros; first | (exfalso; omega) | exact bd_nI (by omega) | exact bd_le ‹bd (nI j_18) _› (by omega) | assumption) (by intros; first | (exfalso; omega) | exact bd_nI (by omega) | exact bd_le ‹bd (nI j_18) _› (by omega) | assumption) (by intros; first | (exfalso; omega) | exact bd_nI (by omega) | exact bd_le ‹bd (nI j_18) _› (by omega) | assumption) (by intros; first | (exfalso; omega) | exact bd_nI (by omega) | exact bd_le ‹bd (nI j_18) _› (by omega) | assumption) (by intros; first | (exfalso; omega) | exact bd_nI (by omega) | exact bd_le ‹bd (nI j_18) _› (by omega) | assumption) (by intros; first | (exfalso; omega) | exact bd_nI (by omega) | exact bd_le ‹bd (nI j_18) _› (by omega) | assumption) (by intros; first | (exfalso; omega) | exact bd_nI (by omega) | exact bd_le ‹bd (nI j_18) _› (by omega) | assumption)
                      refine g_iast hC V 1 rfl (vp_in_nI (by omega) (by omega)) (f' := f_19) (by rw [nI_clamp (by omega)]; exact ef_19.symm) (ws' := [(o, .inr (8, [.int w0, .ref g1, .ref g2, .ref g3, .ref g4, .int (nI tp), .int w6, .int w7, .int w8, .int w9, .int w10, .int w11, .int w12, .int w13, .int w14, .ref g15, .int w16, .ref g17, .int w18, .int w19, .ref g20, .int wv2, .ref g22, .ref g23, .ref g24, .int w25, .int w26, .int w27, .ref g28, .ref g29, .int w30, .ref g31, .ref g32, .ref g33])), (g1, .inl (T 0, 282, .inl f_19)), (g15, .inl (T 0, 10, .inl th2)), (g17, .inl (T 0, 94, .inl gk_1)), (g20, .inl (T 1, 10, .inr (.inl fr)))]) rfl dX8_holdsBy_105 (fun H locs V => ?_)
                      have hx24 : f_19 (24 + (kd - 1)) = hsF n fa PP le (kd - 1) (k13 + 1) := by rw [ef_19, up_same]; exact ej_18.symm.trans (hTn _ (by omega))
                      have hA24 : ∀ j, (j < 24 ∨ 34 ≤ j) → f_19 j = fa j := fun j hj => by rw [ef_19, up_other (by omega)]; exact hA84 j hj
                      have hB24 : ∀ i, kd - 1 ≤ i → i < n → f_19 (24 + i) = hsF n fa PP le i (k13 + 1) := fun i h1 h2 => if q : i = kd - 1 then by rw [q]; exact hx24 else by rw [ef_19, up_other (by omega)]; exact hB84 i (by omega) h2
                      have hwb := wm_bk hx24 (hA24 (34 + (kd - 1)) (by omega)) (hA24 (44 + (kd - 1)) (by omega))
                      refine lv_aload_n hx hb dX8_holdsBy_106 rfl (lv_at hl 4 rfl) ?_
                      refine lv_iload hx hb dX8_holdsBy_107 (lv_at hl 0 rfl) ?_
                      refine g_callVU (nA := 1) hC V hl.1 (m_isWarm_f l D T o (kd - 1) w0 g1 g2 g3 g4 tp w6 w7 w8 w9 w10 w11 w12 w13 w14 g15 w16 g17 w18 w19 g20 wv2 g22 g23 g24 w25 w26 w27 g28 g29 w30 g31 g32 g33 f_19 (by omega)) w_1136 w_1138 w_s52 w_9 w_1139 (by decide +kernel) rfl ⟨(Nat.le_of_ble_eq_true rfl), (Nat.le_of_ble_eq_true rfl)⟩ 0 (ci := 8) rfl rfl [0, 1] rfl rfl (Nat.le_of_ble_eq_true rfl) dX8_holdsBy_109 ⟨(Nat.le_of_ble_eq_true rfl), (Nat.le_of_ble_eq_true rfl)⟩ rfl (fun r w1 H locs hQ V => ?_)
                      rcases hQ with ⟨rfl, rfl, f_20⟩ | ⟨rfl, rfl, f_21⟩
                      · have V : gW D T A s [(o, .inr (8, [.int w0, .ref g1, .ref g2, .ref g3, .ref g4, .int (nI tp), .int w6, .int w7, .int w8, .int w9, .int w10, .int w11, .int w12, .int w13, .int w14, .ref g15, .int w16, .ref g17, .int w18, .int w19, .ref g20, .int wv2, .ref g22, .ref g23, .ref g24, .int w25, .int w26, .int w27, .ref g28, .ref g29, .int w30, .ref g31, .ref g32, .ref g33])), (g1, .inl (T 0, 282, .inl f_19)), (g15, .inl (T 0, 10, .inl th2)), (g17, .inl (T 0, 94, .inl gk_1)), (g20, .inl (T 1, 10, .inr (.inl fr)))] H locs := V _ [0, 0] rfl rfl rfl (by decide +kernel) rfl
                        show W p l e _ s m args below meth c H locs _ _ _ (F0 m 112 ls [.int (nI 1)])
                        refine lv_if_eq (tgt := 118) hx hb dX8_holdsBy_112 (by decide) (fun c => absurd (show (nI 1) = 0 from c) (by decide +kernel)) (fun _ => ?_)
                        refine lv_goto (tgt := 128) hx hb dX8_holdsBy_115 (by decide) ?_
                        refine lv_iinc (v := ((nI (kd - 1)) + (-1))) (lv' := [(5, .int ((nI (kd - 1)) + (-1))), (4, .int z_12), (3, .int (nI k13)), (2, .int x84), (0, .ref o), (1, .int (nI le))]) hx hb dX8_holdsBy_128 hl (k := 0) rfl rfl (by decide) rfl (fun ls hl => ?_)
                        refine lv_goto (tgt := 84) hx hb dX8_holdsBy_131 (by decide) ?_
                        exact ih_84 ((nI (kd - 1)) + (-1)) x84 wv2 f_19 (kd - 1) (by assumption) (dn_step _) (by omega) hA24 hB24 (dw_w hD84 (by omega) (hwb.mp f_20)) (by omega) _ _ _ V (lv_sub hl [0, 1, 2, 3, 4, 5] rfl)
                      · have V : gW D T A s [(o, .inr (8, [.int w0, .ref g1, .ref g2, .ref g3, .ref g4, .int (nI tp), .int w6, .int w7, .int w8, .int w9, .int w10, .int w11, .int w12, .int w13, .int w14, .ref g15, .int w16, .ref g17, .int w18, .int w19, .ref g20, .int wv2, .ref g22, .ref g23, .ref g24, .int w25, .int w26, .int w27, .ref g28, .ref g29, .int w30, .ref g31, .ref g32, .ref g33])), (g1, .inl (T 0, 282, .inl f_19)), (g15, .inl (T 0, 10, .inl th2)), (g17, .inl (T 0, 94, .inl gk_1)), (g20, .inl (T 1, 10, .inr (.inl fr)))] H locs := V _ [0, 0] rfl rfl rfl (by decide +kernel) rfl
                        show W p l e _ s m args below meth c H locs _ _ _ (F0 m 112 ls [.int (nI 0)])
                        refine lv_if_eq (tgt := 118) hx hb dX8_holdsBy_112 (by decide) (fun _ => ?_) (fun c => absurd (show (nI 0) = 0 by decide +kernel) c)
                        refine lv_iload_n hx hb dX8_holdsBy_118 rfl (lv_at hl 2 rfl) ?_
                        refine lv_iconst (v := (nI 1)) hx hb dX8_holdsBy_119 (by decide +kernel) ?_
                        refine lv_iadd hx hb dX8_holdsBy_120 ?_
                        refine g_vi (y := (nI (k13 + 1))) (nI_add _ _) ?_
                        refine lv_istore_n (lv' := [(2, .int (nI (k13 + 1))), (5, .int (nI (kd - 1))), (4, .int z_12), (3, .int (nI k13)), (0, .ref o), (1, .int (nI le))]) hx hb dX8_holdsBy_121 rfl hl (by decide) rfl (fun ls hl => ?_)
                        refine lv_aload_n hx hb dX8_holdsBy_122 rfl (lv_at hl 4 rfl) ?_
                        refine lv_iload hx hb dX8_holdsBy_123 (lv_at hl 1 rfl) ?_
                        refine g_put hC V (ci := 8) uwX8 tyX8 tyX8_ok nmX8 0 rfl rfl 21 (by decide) w_933 rfl rfl rfl rfl (Nat.le_of_ble_eq_true rfl) (ws' := [(o, .inr (8, [.int w0, .ref g1, .ref g2, .ref g3, .ref g4, .int (nI tp), .int w6, .int w7, .int w8, .int w9, .int w10, .int w11, .int w12, .int w13, .int w14, .ref g15, .int w16, .ref g17, .int w18, .int w19, .ref g20, .int (nI (kd - 1)), .ref g22, .ref g23, .ref g24, .int w25, .int w26, .int w27, .ref g28, .ref g29, .int w30, .ref g31, .ref g32, .ref g33])), (g1, .inl (T 0, 282, .inl f_19)), (g15, .inl (T 0, 10, .inl th2)), (g17, .inl (T 0, 94, .inl gk_1)), (g20, .inl (T 1, 10, .inr (.inl fr)))]) rfl dX8_holdsBy_125 (fun H locs V => ?_)
                        refine lv_iinc (v := ((nI (kd - 1)) + (-1))) (lv' := [(5, .int ((nI (kd - 1)) + (-1))), (2, .int (nI (k13 + 1))), (4, .int z_12), (3, .int (nI k13)), (0, .ref o), (1, .int (nI le))]) hx hb dX8_holdsBy_128 hl (k := 1) rfl rfl (by decide) rfl (fun ls hl => ?_)
                        refine lv_goto (tgt := 84) hx hb dX8_holdsBy_131 (by decide) ?_
                        exact ih_84 ((nI (kd - 1)) + (-1)) (nI (k13 + 1)) (nI (kd - 1)) f_19 (kd - 1) (by assumption) (dn_step _) (by omega) hA24 hB24 (dw_b (by omega) (by omega) (Classical.byContradiction (fun q => f_21 (hwb.mpr q)))) (by omega) _ _ _ V (lv_sub hl [0, 2, 3, 1, 4, 5] rfl)
                exact L_16 _ ((nI n) - (nI 1)) x2 wv f13 n (by assumption) rfl (Nat.le_refl _) hA13 (fun i h1 h2 => absurd h1 (by omega)) (dw_0 hTO hxn) (Nat.lt_succ_self _) _ _ _ V (lv_sub hl [0, 1, 2, 3, 4, 5] rfl)
              · skip
                have c_15 := b_nle (by omega) (by omega) c_15
                refine lv_aload_n hx hb dX8_holdsBy_52 rfl (lv_at hl 4 rfl) ?_
                refine g_get hC V (ci := 8) uwX8 0 rfl rfl 15 (by decide) w_927 rfl rfl dX8_holdsBy_53 ?_
                refine lv_iload hx hb dX8_holdsBy_56 (lv_at hl 0 rfl) ?_
                refine lv_aload_n hx hb dX8_holdsBy_58 rfl (lv_at hl 4 rfl) ?_
                refine lv_iload hx hb dX8_holdsBy_59 (lv_at hl 0 rfl) ?_
                refine lv_iload hx hb dX8_holdsBy_61 (lv_at hl 1 rfl) ?_
                refine lv_iconst (v := (nI 0)) hx hb dX8_holdsBy_63 (by decide +kernel) ?_
                refine g_callVU (nA := 3) hC V hl.1 (m_heatThen_f l D T n o k41 z_12 (nI 0) w0 g1 g2 g3 g4 tp w6 w7 w8 w9 w10 w11 w12 w13 w14 g15 w16 g17 w18 w19 g20 wv g22 g23 g24 w25 w26 w27 g28 g29 w30 g31 g32 g33 f13 hf13.1 (by first | assumption | omega)) w_1126 w_1128 w_s51 w_9 w_1129 (by decide +kernel) rfl ⟨(Nat.le_of_ble_eq_true rfl), (Nat.le_of_ble_eq_true rfl)⟩ 0 (ci := 8) rfl rfl [0, 1] rfl rfl (Nat.le_of_ble_eq_true rfl) dX8_holdsBy_64 ⟨(Nat.le_of_ble_eq_true rfl), (Nat.le_of_ble_eq_true rfl)⟩ rfl (fun r w1 H locs hQ V => ?_)
                obtain ⟨z_22, rfl, rfl, f_23, f_24⟩ := hQ
                have V : gW D T A s [(o, .inr (8, [.int w0, .ref g1, .ref g2, .ref g3, .ref g4, .int (nI tp), .int w6, .int w7, .int w8, .int w9, .int w10, .int w11, .int w12, .int w13, .int w14, .ref g15, .int w16, .ref g17, .int w18, .int w19, .ref g20, .int wv, .ref g22, .ref g23, .ref g24, .int w25, .int w26, .int w27, .ref g28, .ref g29, .int w30, .ref g31, .ref g32, .ref g33])), (g1, .inl (T 0, 282, .inl f13)), (g15, .inl (T 0, 10, .inl th2)), (g17, .inl (T 0, 94, .inl gk_1)), (g20, .inl (T 1, 10, .inr (.inl fr)))] H locs := V _ [0, 0] rfl rfl rfl (by decide +kernel) rfl
                show W p l e _ s m args below meth c H locs _ _ _ (F0 m 67 ls [.int z_22, .int (nI k41), .ref g15])
                refine g_iast hC V 2 rfl (vp_in_nI (by omega) (by omega)) (f' := (upd th2 k41 z_22)) (by rw [nI_clamp (by omega)]) (ws' := [(o, .inr (8, [.int w0, .ref g1, .ref g2, .ref g3, .ref g4, .int (nI tp), .int w6, .int w7, .int w8, .int w9, .int w10, .int w11, .int w12, .int w13, .int w14, .ref g15, .int w16, .ref g17, .int w18, .int w19, .ref g20, .int wv, .ref g22, .ref g23, .ref g24, .int w25, .int w26, .int w27, .ref g28, .ref g29, .int w30, .ref g31, .ref g32, .ref g33])), (g1, .inl (T 0, 282, .inl f13)), (g15, .inl (T 0, 10, .inl (upd th2 k41 z_22))), (g17, .inl (T 0, 94, .inl gk_1)), (g20, .inl (T 1, 10, .inr (.inl fr)))]) rfl dX8_holdsBy_67 (fun H locs V => ?_)
                refine lv_iinc (v := (nI (k41 + 1))) (lv' := [(5, .int (nI (k41 + 1))), (4, .int z_12), (3, .int (nI k13)), (2, .int x2), (0, .ref o), (1, .int (nI le))]) hx hb dX8_holdsBy_68 hl (k := 0) rfl (nI_1 _) (by decide) rfl (fun ls hl => ?_)
                refine lv_goto (tgt := 41) hx hb dX8_holdsBy_71 (by decide) ?_
                exact ih_41 (k41 + 1) (upd th2 k41 z_22) (by omega) (up_one (p := fun _ x => bd x 201) ht2 (by assumption)) (up_one (p := fun i x => x = hsF n fa PP le i (k13 + 1)) hT2 (hs_m hn10 (by omega) hA13 hB13 hbit f_24)) (by omega) _ _ _ V (lv_sub hl [0, 1, 2, 3, 4, 5] rfl)
          exact L_14 _ 0 th (by omega) (fun i h => absurd h (Nat.not_lt_zero _)) (fun i h => absurd h (Nat.not_lt_zero _)) (Nat.lt_succ_self _) _ _ _ V (lv_sub hl [0, 1, 2, 3, 4, 5] rfl)
  exact L_3 _ 0 (-1) (-1) fh fa (by omega) (by assumption) (fun _ _ => rfl) (fun _ _ => rfl) to_0 (Nat.lt_succ_self _) _ _ _ V (lv_sub hl [0, 1, 2, 3] rfl)

def q_m_holds_f (T : Nat → ClassId) (n : Nat) (o : Nat) (row : Int32) (le : Int32) (wh : Int32) (w0 : Int32) (g1 : Nat) (g2 : Nat) (g3 : Nat) (g4 : Nat) (tp : Nat) (w6 : Int32) (w7 : Int32) (w8 : Int32) (w9 : Int32) (w10 : Int32) (w11 : Int32) (w12 : Int32) (w13 : Int32) (w14 : Int32) (g15 : Nat) (w16 : Int32) (g17 : Nat) (w18 : Int32) (w19 : Int32) (g20 : Nat) (w21 : Int32) (g22 : Nat) (g23 : Nat) (g24 : Nat) (w25 : Int32) (w26 : Int32) (w27 : Int32) (g28 : Nat) (g29 : Nat) (w30 : Int32) (g31 : Nat) (g32 : Nat) (g33 : Nat) (fa : Nat → Int32) (fh : Nat → Int32) (fk : Nat → Int32) (fr : Nat → Int64) (fq : Nat → Int32) (fm : Nat → Int32) (fn : Nat → Int64) : Option Value → va_W → Prop := fun rr ww => (∃ (z : Int32) (wq : Int32) (gh : Nat → Int32) (gk : Nat → Int32) (gr : Nat → Int64), rr = some (.int z) ∧ ww = [(o, .inr (8, [.int (nI 0), .ref g1, .ref g2, .ref g3, .ref g4, .int (nI tp), .int w6, .int w7, .int w8, .int w9, .int w10, .int w11, .int w12, .int w13, .int w14, .ref g15, .int w16, .ref g17, .int w18, .int w19, .ref g20, .int wq, .ref g22, .ref g23, .ref g24, .int w25, .int w26, .int w27, .ref g28, .ref g29, .int w30, .ref g31, .ref g32, .ref g33])), (g1, .inl (T 0, 282, .inl fa)), (g15, .inl (T 0, 10, .inl gh)), (g17, .inl (T 0, 94, .inl gk)), (g20, .inl (T 1, 10, .inr (.inl gr))), (g31, .inl (T 0, 4, .inl fq)), (g32, .inl (T 0, 4, .inl fm)), (g33, .inl (T 1, 160, .inr (.inl fn)))] ∧ HOR n fa fq fm fn row le wh z)
set_option maxHeartbeats 4000000 in
set_option maxRecDepth 100000 in
theorem m_holds_f (l : Launch) (D : va_G) (T : Nat → ClassId) (n : Nat) (o : Nat) (row : Int32) (le : Int32) (wh : Int32) (w0 : Int32) (g1 : Nat) (g2 : Nat) (g3 : Nat) (g4 : Nat) (tp : Nat) (w6 : Int32) (w7 : Int32) (w8 : Int32) (w9 : Int32) (w10 : Int32) (w11 : Int32) (w12 : Int32) (w13 : Int32) (w14 : Int32) (g15 : Nat) (w16 : Int32) (g17 : Nat) (w18 : Int32) (w19 : Int32) (g20 : Nat) (w21 : Int32) (g22 : Nat) (g23 : Nat) (g24 : Nat) (w25 : Int32) (w26 : Int32) (w27 : Int32) (g28 : Nat) (g29 : Nat) (w30 : Int32) (g31 : Nat) (g32 : Nat) (g33 : Nat) (fa : Nat → Int32) (fh : Nat → Int32) (fk : Nat → Int32) (fr : Nat → Int64) (fq : Nat → Int32) (fm : Nat → Int32) (fn : Nat → Int64) (h_a : MI n fa) (h_rm : ∀ i, i < 4 → bd (fm i) 41) (h_lb : LB fa) : Ct l yX8_holds cX8_holds 6 (some .int) 4 0 0 D T [.ref o, .int row, .int le, .int wh] [(o, .inr (8, [.int w0, .ref g1, .ref g2, .ref g3, .ref g4, .int (nI tp), .int w6, .int w7, .int w8, .int w9, .int w10, .int w11, .int w12, .int w13, .int w14, .ref g15, .int w16, .ref g17, .int w18, .int w19, .ref g20, .int w21, .ref g22, .ref g23, .ref g24, .int w25, .int w26, .int w27, .ref g28, .ref g29, .int w30, .ref g31, .ref g32, .ref g33])), (g1, .inl (T 0, 282, .inl fa)), (g15, .inl (T 0, 10, .inl fh)), (g17, .inl (T 0, 94, .inl fk)), (g20, .inl (T 1, 10, .inr (.inl fr))), (g31, .inl (T 0, 4, .inl fq)), (g32, .inl (T 0, 4, .inl fm)), (g33, .inl (T 1, 160, .inr (.inl fn)))] (q_m_holds_f T n o row le wh w0 g1 g2 g3 g4 tp w6 w7 w8 w9 w10 w11 w12 w13 w14 g15 w16 g17 w18 w19 g20 w21 g22 g23 g24 w25 w26 w27 g28 g29 w30 g31 g32 g33 fa fh fk fr fq fm fn) := by
  refine Ct.of (cc := cX8_holds) (maxL := 6) (ret := (some .int)) (by decide) (Nat.le_of_ble_eq_true rfl) ?_
  intro p e s m args below meth c A ls hC hnm V hl
  obtain ⟨hx, hb, hr, hml, hown, hts, hlocks⟩ := id hC
  generalize hH : s.heap = H at V ⊢
  clear hH
  have hl : lv_has ls 6 [(0, .ref o), (1, .int row), (2, .int le), (3, .int wh)] := hl
  generalize hlo : ([] : List Loc) = locs at V ⊢
  clear hlo
  have ms0 := ms_rf h_a
  have hn10 := h_a.1
  refine lv_aload_n hx hb dX8_holds_0 rfl (lv_at hl 0 rfl) ?_
  refine lv_iconst (v := (nI 0)) hx hb dX8_holds_1 (by decide +kernel) ?_
  refine g_put hC V (ci := 8) uwX8 tyX8 tyX8_ok nmX8 0 rfl rfl 0 (by decide) w_912 rfl rfl rfl rfl (Nat.le_of_ble_eq_true rfl) (ws' := [(o, .inr (8, [.int (nI 0), .ref g1, .ref g2, .ref g3, .ref g4, .int (nI tp), .int w6, .int w7, .int w8, .int w9, .int w10, .int w11, .int w12, .int w13, .int w14, .ref g15, .int w16, .ref g17, .int w18, .int w19, .ref g20, .int w21, .ref g22, .ref g23, .ref g24, .int w25, .int w26, .int w27, .ref g28, .ref g29, .int w30, .ref g31, .ref g32, .ref g33])), (g1, .inl (T 0, 282, .inl fa)), (g15, .inl (T 0, 10, .inl fh)), (g17, .inl (T 0, 94, .inl fk)), (g20, .inl (T 1, 10, .inr (.inl fr))), (g31, .inl (T 0, 4, .inl fq)), (g32, .inl (T 0, 4, .inl fm)), (g33, .inl (T 1, 160, .inr (.inl fn)))]) rfl dX8_holds_2 (fun H locs V => ?_)
  refine lv_iload_n hx hb dX8_holds_5 rfl (lv_at hl 1 rfl) ?_
  refine lv_i2l (v := row.toInt64) hx hb dX8_holds_6 rfl ?_
  refine lv_lconst (v := (nI 0).toInt64) hx hb dX8_holds_7 (by decide +kernel) ?_
  refine lv_ldc2 (v := (3)) hx hb hown (hts _ w_1144) dX8_holds_8 ?_
  refine g_vl (y := (nI 3).toInt64) (by decide +kernel) ?_
  refine g_callSU (nA := 3) hC V hl.1 (m_within l D T row (nI 0) (nI 3)) w_1023 w_1024 w_9 w_1025 (by decide +kernel) rfl ⟨(Nat.le_of_ble_eq_true rfl), (Nat.le_of_ble_eq_true rfl)⟩ [] rfl rfl (Nat.le_of_ble_eq_true rfl) dX8_holds_11 ⟨(Nat.le_of_ble_eq_true rfl), (Nat.le_of_ble_eq_true rfl)⟩ rfl (fun r w1 H locs hQ V => ?_)
  rcases hQ with ⟨rfl, rfl, f_1, f_2⟩ | ⟨rfl, rfl, f_3⟩
  · have V : gW D T A s [(o, .inr (8, [.int (nI 0), .ref g1, .ref g2, .ref g3, .ref g4, .int (nI tp), .int w6, .int w7, .int w8, .int w9, .int w10, .int w11, .int w12, .int w13, .int w14, .ref g15, .int w16, .ref g17, .int w18, .int w19, .ref g20, .int w21, .ref g22, .ref g23, .ref g24, .int w25, .int w26, .int w27, .ref g28, .ref g29, .int w30, .ref g31, .ref g32, .ref g33])), (g1, .inl (T 0, 282, .inl fa)), (g15, .inl (T 0, 10, .inl fh)), (g17, .inl (T 0, 94, .inl fk)), (g20, .inl (T 1, 10, .inr (.inl fr))), (g31, .inl (T 0, 4, .inl fq)), (g32, .inl (T 0, 4, .inl fm)), (g33, .inl (T 1, 160, .inr (.inl fn)))] H locs := V _ [] rfl rfl rfl (by decide +kernel) rfl
    show W p l e _ s m args below meth c H locs _ _ _ (F0 m 14 ls [.int (nI 1)])
    obtain ⟨r, hr1, hr2, er⟩ := g_rng (by decide) (by decide) f_1 f_2
    rw [er] at hl
    refine lv_if_eq (tgt := 27) hx hb dX8_holds_14 (by decide) (fun c => absurd (show (nI 1) = 0 from c) (by decide +kernel)) (fun _ => ?_)
    refine lv_iload_n hx hb dX8_holds_17 rfl (lv_at hl 3 rfl) ?_
    refine lv_i2l (v := wh.toInt64) hx hb dX8_holds_18 rfl ?_
    refine lv_lconst (v := (nI 0).toInt64) hx hb dX8_holds_19 (by decide +kernel) ?_
    refine lv_lconst (v := (nI 1).toInt64) hx hb dX8_holds_20 (by decide +kernel) ?_
    refine g_callSU (nA := 3) hC V hl.1 (m_within l D T wh (nI 0) (nI 1)) w_1023 w_1024 w_9 w_1025 (by decide +kernel) rfl ⟨(Nat.le_of_ble_eq_true rfl), (Nat.le_of_ble_eq_true rfl)⟩ [] rfl rfl (Nat.le_of_ble_eq_true rfl) dX8_holds_21 ⟨(Nat.le_of_ble_eq_true rfl), (Nat.le_of_ble_eq_true rfl)⟩ rfl (fun r w1 H locs hQ V => ?_)
    rcases hQ with ⟨rfl, rfl, f_4, f_5⟩ | ⟨rfl, rfl, f_6⟩
    · have V : gW D T A s [(o, .inr (8, [.int (nI 0), .ref g1, .ref g2, .ref g3, .ref g4, .int (nI tp), .int w6, .int w7, .int w8, .int w9, .int w10, .int w11, .int w12, .int w13, .int w14, .ref g15, .int w16, .ref g17, .int w18, .int w19, .ref g20, .int w21, .ref g22, .ref g23, .ref g24, .int w25, .int w26, .int w27, .ref g28, .ref g29, .int w30, .ref g31, .ref g32, .ref g33])), (g1, .inl (T 0, 282, .inl fa)), (g15, .inl (T 0, 10, .inl fh)), (g17, .inl (T 0, 94, .inl fk)), (g20, .inl (T 1, 10, .inr (.inl fr))), (g31, .inl (T 0, 4, .inl fq)), (g32, .inl (T 0, 4, .inl fm)), (g33, .inl (T 1, 160, .inr (.inl fn)))] H locs := V _ [] rfl rfl rfl (by decide +kernel) rfl
      show W p l e _ s m args below meth c H locs _ _ _ (F0 m 24 ls [.int (nI 1)])
      refine lv_if_ne (tgt := 30) hx hb dX8_holds_24 (by decide) (fun _ => ?_) (fun c => absurd (show (nI 1) = 0 from c) (by decide +kernel))
      refine lv_aload_n hx hb dX8_holds_30 rfl (lv_at hl 0 rfl) ?_
      refine lv_iload_n hx hb dX8_holds_31 rfl (lv_at hl 1 rfl) ?_
      refine lv_iload_n hx hb dX8_holds_32 rfl (lv_at hl 2 rfl) ?_
      refine g_callVU (nA := 2) hC V hl.1 (m_takesRhythm_f l D T n o r le (nI 0) g1 g2 g3 g4 tp w6 w7 w8 w9 w10 w11 w12 w13 w14 g15 w16 g17 w18 w19 g20 w21 g22 g23 g24 w25 w26 w27 g28 g29 w30 g31 g32 g33 fa fr fq fm fn h_a (by first | assumption | omega) (by first | assumption | omega)) w_1224 w_1226 w_s63 w_9 w_1227 (by decide +kernel) rfl ⟨(Nat.le_of_ble_eq_true rfl), (Nat.le_of_ble_eq_true rfl)⟩ 0 (ci := 8) rfl rfl [0, 1, 4, 5, 6, 7] rfl rfl (Nat.le_of_ble_eq_true rfl) dX8_holds_33 ⟨(Nat.le_of_ble_eq_true rfl), (Nat.le_of_ble_eq_true rfl)⟩ rfl (fun r w1 H locs hQ V => ?_)
      rcases hQ with ⟨jl, gR, rfl, rfl, f_7, f_8, f_9, f_10, f_11⟩ | ⟨z_12, rfl, rfl, f_13, f_14⟩
      · have V : gW D T A s [(o, .inr (8, [.int (nI 0), .ref g1, .ref g2, .ref g3, .ref g4, .int (nI tp), .int w6, .int w7, .int w8, .int w9, .int w10, .int w11, .int w12, .int w13, .int w14, .ref g15, .int w16, .ref g17, .int w18, .int w19, .ref g20, .int w21, .ref g22, .ref g23, .ref g24, .int w25, .int w26, .int w27, .ref g28, .ref g29, .int w30, .ref g31, .ref g32, .ref g33])), (g1, .inl (T 0, 282, .inl fa)), (g15, .inl (T 0, 10, .inl fh)), (g17, .inl (T 0, 94, .inl fk)), (g20, .inl (T 1, 10, .inr (.inl gR))), (g31, .inl (T 0, 4, .inl fq)), (g32, .inl (T 0, 4, .inl fm)), (g33, .inl (T 1, 160, .inr (.inl fn)))] H locs := V _ [0, 0, 2, 0, 0, 0] rfl rfl rfl (by decide +kernel) rfl
        show W p l e _ s m args below meth c H locs _ _ _ (F0 m 36 ls [.int (nI 0)])
        have hgR := f_11
        rw [f_9] at hl
        refine lv_istore (lv' := [(4, .int (nI 0)), (0, .ref o), (1, .int (nI r)), (2, .int (nI jl)), (3, .int wh)]) hx hb dX8_holds_36 hl (by decide) rfl (fun ls hl => ?_)
        refine lv_iload hx hb dX8_holds_38 (lv_at hl 0 rfl) ?_
        refine lv_if_eq (tgt := 46) hx hb dX8_holds_40 (by decide) (fun _ => ?_) (fun c => absurd (show (nI 0) = 0 by decide +kernel) c)
        refine lv_aload_n hx hb dX8_holds_46 rfl (lv_at hl 1 rfl) ?_
        refine lv_iload_n hx hb dX8_holds_47 rfl (lv_at hl 3 rfl) ?_
        refine g_callVU (nA := 1) hC V hl.1 (m_holdsBy_f l D T (rhP fn r jl) n o jl (nI 0) g1 g2 g3 g4 tp w6 w7 w8 w9 w10 w11 w12 w13 w14 g15 w16 g17 w18 w19 g20 w21 g22 g23 g24 w25 w26 w27 g28 g29 w30 g31 g32 g33 fa fh fk gR h_a ⟨by omega, by omega⟩ h_lb (fun k hk t ht => rp_b (hgR k hk) ht (by omega))) w_1229 w_1231 w_s64 w_9 w_1232 (by decide +kernel) rfl ⟨(Nat.le_of_ble_eq_true rfl), (Nat.le_of_ble_eq_true rfl)⟩ 0 (ci := 8) rfl rfl [0, 1, 2, 3, 4] rfl rfl (Nat.le_of_ble_eq_true rfl) dX8_holds_48 ⟨(Nat.le_of_ble_eq_true rfl), (Nat.le_of_ble_eq_true rfl)⟩ rfl (fun r w1 H locs hQ V => ?_)
        obtain ⟨z_15, wq_16, gh_17, gk_18, rfl, rfl, f_19⟩ := hQ
        have V : gW D T A s [(o, .inr (8, [.int (nI 0), .ref g1, .ref g2, .ref g3, .ref g4, .int (nI tp), .int w6, .int w7, .int w8, .int w9, .int w10, .int w11, .int w12, .int w13, .int w14, .ref g15, .int w16, .ref g17, .int w18, .int w19, .ref g20, .int wq_16, .ref g22, .ref g23, .ref g24, .int w25, .int w26, .int w27, .ref g28, .ref g29, .int w30, .ref g31, .ref g32, .ref g33])), (g1, .inl (T 0, 282, .inl fa)), (g15, .inl (T 0, 10, .inl gh_17)), (g17, .inl (T 0, 94, .inl gk_18)), (g20, .inl (T 1, 10, .inr (.inl gR))), (g31, .inl (T 0, 4, .inl fq)), (g32, .inl (T 0, 4, .inl fm)), (g33, .inl (T 1, 160, .inr (.inl fn)))] H locs := V _ [0, 0, 0, 0, 0] rfl rfl rfl (by decide +kernel) rfl
        show W p l e _ s m args below meth c H locs _ _ _ (F0 m 51 ls [.int z_15])
        refine lv_istore (lv' := [(5, .int z_15), (4, .int (nI 0)), (0, .ref o), (1, .int (nI r)), (2, .int (nI jl)), (3, .int wh)]) hx hb dX8_holds_51 hl (by decide) rfl (fun ls hl => ?_)
        refine lv_iload_n hx hb dX8_holds_53 rfl (lv_at hl 5 rfl) ?_
        refine lv_if_ne (tgt := 62) hx hb dX8_holds_54 (by decide) (fun c_20 => ?_) (fun c_20 => ?_)
        · skip
          refine lv_aload_n hx hb dX8_holds_62 rfl (lv_at hl 2 rfl) ?_
          refine g_get hC V (ci := 8) uwX8 0 rfl rfl 21 (by decide) w_933 rfl rfl dX8_holds_63 ?_
          exact g_iret (Qr := (q_m_holds_f T n o row le wh w0 g1 g2 g3 g4 tp w6 w7 w8 w9 w10 w11 w12 w13 w14 g15 w16 g17 w18 w19 g20 w21 g22 g23 g24 w25 w26 w27 g28 g29 w30 g31 g32 g33 fa fh fk fr fq fm fn)) hC V ⟨(Nat.le_of_ble_eq_true rfl), (Nat.le_of_ble_eq_true rfl)⟩ ⟨wq_16, wq_16, gh_17, gk_18, gR, rfl, rfl, (hr_1 (hw_y f_4 f_5 (by rw [er]; exact f_10)) er (by omega) f_9 (by omega) f_19 c_20)⟩ dX8_holds_66
        · skip
          refine lv_iload hx hb dX8_holds_57 (lv_at hl 0 rfl) ?_
          refine lv_goto (tgt := 66) hx hb dX8_holds_59 (by decide) ?_
          exact g_iret (Qr := (q_m_holds_f T n o row le wh w0 g1 g2 g3 g4 tp w6 w7 w8 w9 w10 w11 w12 w13 w14 g15 w16 g17 w18 w19 g20 w21 g22 g23 g24 w25 w26 w27 g28 g29 w30 g31 g32 g33 fa fh fk fr fq fm fn)) hC V ⟨(Nat.le_of_ble_eq_true rfl), (Nat.le_of_ble_eq_true rfl)⟩ ⟨z_15, wq_16, gh_17, gk_18, gR, rfl, rfl, (hr_0 (hw_y f_4 f_5 (by rw [er]; exact f_10)) er (by omega) f_9 (by omega) f_19 c_20)⟩ dX8_holds_66
      · have V : gW D T A s [(o, .inr (8, [.int (nI 0), .ref g1, .ref g2, .ref g3, .ref g4, .int (nI tp), .int w6, .int w7, .int w8, .int w9, .int w10, .int w11, .int w12, .int w13, .int w14, .ref g15, .int w16, .ref g17, .int w18, .int w19, .ref g20, .int w21, .ref g22, .ref g23, .ref g24, .int w25, .int w26, .int w27, .ref g28, .ref g29, .int w30, .ref g31, .ref g32, .ref g33])), (g1, .inl (T 0, 282, .inl fa)), (g15, .inl (T 0, 10, .inl fh)), (g17, .inl (T 0, 94, .inl fk)), (g20, .inl (T 1, 10, .inr (.inl fr))), (g31, .inl (T 0, 4, .inl fq)), (g32, .inl (T 0, 4, .inl fm)), (g33, .inl (T 1, 160, .inr (.inl fn)))] H locs := V _ [0, 0, 2, 0, 0, 0] rfl rfl rfl (by decide +kernel) rfl
        show W p l e _ s m args below meth c H locs _ _ _ (F0 m 36 ls [.int z_12])
        refine lv_istore (lv' := [(4, .int z_12), (0, .ref o), (1, .int (nI r)), (2, .int le), (3, .int wh)]) hx hb dX8_holds_36 hl (by decide) rfl (fun ls hl => ?_)
        refine lv_iload hx hb dX8_holds_38 (lv_at hl 0 rfl) ?_
        refine lv_if_eq (tgt := 46) hx hb dX8_holds_40 (by decide) (fun c_21 => ?_) (fun c_21 => ?_)
        · skip
          exact (absurd c_21 (by assumption) : False).elim
        · skip
          refine lv_iload hx hb dX8_holds_43 (lv_at hl 0 rfl) ?_
          exact g_iret (Qr := (q_m_holds_f T n o row le wh w0 g1 g2 g3 g4 tp w6 w7 w8 w9 w10 w11 w12 w13 w14 g15 w16 g17 w18 w19 g20 w21 g22 g23 g24 w25 w26 w27 g28 g29 w30 g31 g32 g33 fa fh fk fr fq fm fn)) hC V ⟨(Nat.le_of_ble_eq_true rfl), (Nat.le_of_ble_eq_true rfl)⟩ ⟨z_12, w21, fh, fk, fr, rfl, rfl, (hr_n (hw_y f_4 f_5 (by rw [er]; exact f_14)) f_13)⟩ dX8_holds_45
    · have V : gW D T A s [(o, .inr (8, [.int (nI 0), .ref g1, .ref g2, .ref g3, .ref g4, .int (nI tp), .int w6, .int w7, .int w8, .int w9, .int w10, .int w11, .int w12, .int w13, .int w14, .ref g15, .int w16, .ref g17, .int w18, .int w19, .ref g20, .int w21, .ref g22, .ref g23, .ref g24, .int w25, .int w26, .int w27, .ref g28, .ref g29, .int w30, .ref g31, .ref g32, .ref g33])), (g1, .inl (T 0, 282, .inl fa)), (g15, .inl (T 0, 10, .inl fh)), (g17, .inl (T 0, 94, .inl fk)), (g20, .inl (T 1, 10, .inr (.inl fr))), (g31, .inl (T 0, 4, .inl fq)), (g32, .inl (T 0, 4, .inl fm)), (g33, .inl (T 1, 160, .inr (.inl fn)))] H locs := V _ [] rfl rfl rfl (by decide +kernel) rfl
      show W p l e _ s m args below meth c H locs _ _ _ (F0 m 24 ls [.int (nI 0)])
      refine lv_if_ne (tgt := 30) hx hb dX8_holds_24 (by decide) (fun c => absurd (show (nI 0) = 0 by decide +kernel) c) (fun _ => ?_)
      refine lv_bipush (v := (-2)) hx hb dX8_holds_27 (by decide +kernel) ?_
      exact g_iret (Qr := (q_m_holds_f T n o row le wh w0 g1 g2 g3 g4 tp w6 w7 w8 w9 w10 w11 w12 w13 w14 g15 w16 g17 w18 w19 g20 w21 g22 g23 g24 w25 w26 w27 g28 g29 w30 g31 g32 g33 fa fh fk fr fq fm fn)) hC V ⟨(Nat.le_of_ble_eq_true rfl), (Nat.le_of_ble_eq_true rfl)⟩ ⟨(-2), w21, fh, fk, fr, rfl, rfl, (hr_n (hw_w f_6) (by decide +kernel))⟩ dX8_holds_29
  · have V : gW D T A s [(o, .inr (8, [.int (nI 0), .ref g1, .ref g2, .ref g3, .ref g4, .int (nI tp), .int w6, .int w7, .int w8, .int w9, .int w10, .int w11, .int w12, .int w13, .int w14, .ref g15, .int w16, .ref g17, .int w18, .int w19, .ref g20, .int w21, .ref g22, .ref g23, .ref g24, .int w25, .int w26, .int w27, .ref g28, .ref g29, .int w30, .ref g31, .ref g32, .ref g33])), (g1, .inl (T 0, 282, .inl fa)), (g15, .inl (T 0, 10, .inl fh)), (g17, .inl (T 0, 94, .inl fk)), (g20, .inl (T 1, 10, .inr (.inl fr))), (g31, .inl (T 0, 4, .inl fq)), (g32, .inl (T 0, 4, .inl fm)), (g33, .inl (T 1, 160, .inr (.inl fn)))] H locs := V _ [] rfl rfl rfl (by decide +kernel) rfl
    show W p l e _ s m args below meth c H locs _ _ _ (F0 m 14 ls [.int (nI 0)])
    have r0 : (row < 0 ∨ nI 4 ≤ row) := nv_r rfl (by decide) f_3
    refine lv_if_eq (tgt := 27) hx hb dX8_holds_14 (by decide) (fun _ => ?_) (fun c => absurd (show (nI 0) = 0 by decide +kernel) c)
    refine lv_bipush (v := (-2)) hx hb dX8_holds_27 (by decide +kernel) ?_
    exact g_iret (Qr := (q_m_holds_f T n o row le wh w0 g1 g2 g3 g4 tp w6 w7 w8 w9 w10 w11 w12 w13 w14 g15 w16 g17 w18 w19 g20 w21 g22 g23 g24 w25 w26 w27 g28 g29 w30 g31 g32 g33 fa fh fk fr fq fm fn)) hC V ⟨(Nat.le_of_ble_eq_true rfl), (Nat.le_of_ble_eq_true rfl)⟩ ⟨(-2), w21, fh, fk, fr, rfl, rfl, (hr_n (hw_r r0) (by decide +kernel))⟩ dX8_holds_29
