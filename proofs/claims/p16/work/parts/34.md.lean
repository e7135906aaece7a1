def q_m_pulling (T : Nat → ClassId) (n : Nat) (o : Nat) (t : Int32) (w0 : Int32) (g1 : Nat) (g2 : Nat) (g3 : Nat) (g4 : Nat) (tp : Nat) (w6 : Int32) (w7 : Int32) (w8 : Int32) (w9 : Int32) (w10 : Int32) (w11 : Int32) (w12 : Int32) (w13 : Int32) (w14 : Int32) (g15 : Nat) (w16 : Int32) (g17 : Nat) (w18 : Int32) (w19 : Int32) (g20 : Nat) (w21 : Int32) (g22 : Nat) (g23 : Nat) (g24 : Nat) (w25 : Int32) (w26 : Int32) (w27 : Int32) (g28 : Nat) (g29 : Nat) (w30 : Int32) (g31 : Nat) (g32 : Nat) (g33 : Nat) (fa : Nat → Int32) (fr : Nat → Int64) : Option Value → va_W → Prop := fun rr ww => (∃ (z : Int32), rr = some (.int z) ∧ ww = [(o, .inr (8, [.int w0, .ref g1, .ref g2, .ref g3, .ref g4, .int (nI tp), .int w6, .int w7, .int w8, .int w9, .int w10, .int w11, .int w12, .int w13, .int w14, .ref g15, .int w16, .ref g17, .int w18, .int w19, .ref g20, .int w21, .ref g22, .ref g23, .ref g24, .int w25, .int w26, .int w27, .ref g28, .ref g29, .int w30, .ref g31, .ref g32, .ref g33])), (g1, .inl (T 0, 282, .inl fa)), (g20, .inl (T 1, 10, .inr (.inl fr)))])
set_option maxHeartbeats 4000000 in
set_option maxRecDepth 100000 in
theorem m_pulling (l : Launch) (D : va_G) (T : Nat → ClassId) (n : Nat) (o : Nat) (t : Int32) (w0 : Int32) (g1 : Nat) (g2 : Nat) (g3 : Nat) (g4 : Nat) (tp : Nat) (w6 : Int32) (w7 : Int32) (w8 : Int32) (w9 : Int32) (w10 : Int32) (w11 : Int32) (w12 : Int32) (w13 : Int32) (w14 : Int32) (g15 : Nat) (w16 : Int32) (g17 : Nat) (w18 : Int32) (w19 : Int32) (g20 : Nat) (w21 : Int32) (g22 : Nat) (g23 : Nat) (g24 : Nat) (w25 : Int32) (w26 : Int32) (w27 : Int32) (g28 : Nat) (g29 : Nat) (w30 : Int32) (g31 : Nat) (g32 : Nat) (g33 : Nat) (fa : Nat → Int32) (fr : Nat → Int64) (h_a : MI n fa) : Ct l yX8_pulling cX8_pulling 4 (some .int) 1 0 0 D T [.ref o, .int t] [(o, .inr (8, [.int w0, .ref g1, .ref g2, .ref g3, .ref g4, .int (nI tp), .int w6, .int w7, .int w8, .int w9, .int w10, .int w11, .int w12, .int w13, .int w14, .ref g15, .int w16, .ref g17, .int w18, .int w19, .ref g20, .int w21, .ref g22, .ref g23, .ref g24, .int w25, .int w26, .int w27, .ref g28, .ref g29, .int w30, .ref g31, .ref g32, .ref g33])), (g1, .inl (T 0, 282, .inl fa)), (g20, .inl (T 1, 10, .inr (.inl fr)))] (q_m_pulling T n o t w0 g1 g2 g3 g4 tp w6 w7 w8 w9 w10 w11 w12 w13 w14 g15 w16 g17 w18 w19 g20 w21 g22 g23 g24 w25 w26 w27 g28 g29 w30 g31 g32 g33 fa fr) := by
  refine Ct.of (cc := cX8_pulling) (maxL := 4) (ret := (some .int)) (by decide) (Nat.le_of_ble_eq_true rfl) ?_
  intro p e s m args below meth c A ls hC hnm V hl
  obtain ⟨hx, hb, hr, hml, hown, hts, hlocks⟩ := id hC
  generalize hH : s.heap = H at V ⊢
  clear hH
  have hl : lv_has ls 4 [(0, .ref o), (1, .int t)] := hl
  generalize hlo : ([] : List Loc) = locs at V ⊢
  clear hlo
  have ms0 := ms_rf h_a
  have hn10 := h_a.1
  refine lv_iconst (v := (nI 0)) hx hb dX8_pulling_0 (by decide +kernel) ?_
  refine lv_istore_n (lv' := [(2, .int (nI 0)), (0, .ref o), (1, .int t)]) hx hb dX8_pulling_1 rfl hl (by decide) rfl (fun ls hl => ?_)
  refine lv_iconst (v := (nI 0)) hx hb dX8_pulling_2 (by decide +kernel) ?_
  refine lv_istore_n (lv' := [(3, .int (nI 0)), (2, .int (nI 0)), (0, .ref o), (1, .int t)]) hx hb dX8_pulling_3 rfl hl (by decide) rfl (fun ls hl => ?_)
  have L_1 : ∀ (fu : Nat) (k4 : Nat) (x4_2 : Int32), k4 ≤ n → n - k4 < fu → ∀ (H : Heap) (locs : List Loc) (ls : Array Slot), gW D T A s [(o, .inr (8, [.int w0, .ref g1, .ref g2, .ref g3, .ref g4, .int (nI tp), .int w6, .int w7, .int w8, .int w9, .int w10, .int w11, .int w12, .int w13, .int w14, .ref g15, .int w16, .ref g17, .int w18, .int w19, .ref g20, .int w21, .ref g22, .ref g23, .ref g24, .int w25, .int w26, .int w27, .ref g28, .ref g29, .int w30, .ref g31, .ref g32, .ref g33])), (g1, .inl (T 0, 282, .inl fa)), (g20, .inl (T 1, 10, .inr (.inl fr)))] H locs → lv_has ls 4 [(3, .int (nI k4)), (2, .int x4_2), (0, .ref o), (1, .int t)] → W p l e (rmD 1 0 0) s m args below meth c H locs 0 0 (MQ below (gQ D A (q_m_pulling T n o t w0 g1 g2 g3 g4 tp w6 w7 w8 w9 w10 w11 w12 w13 w14 g15 w16 g17 w18 w19 g20 w21 g22 g23 g24 w25 w26 w27 g28 g29 w30 g31 g32 g33 fa fr)) args s 0 0 A) (F0 m 4 ls []) := by
    intro fu_4
    induction fu_4 with
    | zero => intro k4 x4_2 hk4 hmu; exact absurd hmu (Nat.not_lt_zero _)
    | succ fu_4 ih_4 =>
      intro k4 x4_2 hk4 hmu_4 H locs ls V hl
      refine lv_iload_n hx hb dX8_pulling_4 rfl (lv_at hl 0 rfl) ?_
      refine lv_aload_n hx hb dX8_pulling_5 rfl (lv_at hl 2 rfl) ?_
      refine g_get hC V (ci := 8) uwX8 0 rfl rfl 1 (by decide) w_913 rfl rfl dX8_pulling_6 ?_
      refine lv_iconst (v := (nI 0)) hx hb dX8_pulling_9 (by decide +kernel) ?_
      refine g_iald hC V 1 rfl (vp_in_nI (by decide) (by decide)) (v := (nI n)) (by rw [nI_clamp (by decide)]; first | rfl | exact h_a.2.1) dX8_pulling_10 ?_
      refine lv_icmp_ge (tgt := 43) hx hb dX8_pulling_11 (by decide) (fun c_2 => ?_) (fun c_2 => ?_)
      · skip
        have c_2 := b_le (by omega) (by omega) c_2
        refine lv_iload_n hx hb dX8_pulling_43 rfl (lv_at hl 1 rfl) ?_
        exact g_iret (Qr := (q_m_pulling T n o t w0 g1 g2 g3 g4 tp w6 w7 w8 w9 w10 w11 w12 w13 w14 g15 w16 g17 w18 w19 g20 w21 g22 g23 g24 w25 w26 w27 g28 g29 w30 g31 g32 g33 fa fr)) hC V ⟨(Nat.le_of_ble_eq_true rfl), (Nat.le_of_ble_eq_true rfl)⟩ ⟨x4_2, rfl, rfl⟩ dX8_pulling_44
      · skip
        have c_2 := b_nle (by omega) (by omega) c_2
        refine lv_iload_n hx hb dX8_pulling_14 rfl (lv_at hl 1 rfl) ?_
        refine lv_aload_n hx hb dX8_pulling_15 rfl (lv_at hl 2 rfl) ?_
        refine g_get hC V (ci := 8) uwX8 0 rfl rfl 20 (by decide) w_932 rfl rfl dX8_pulling_16 ?_
        refine lv_iload_n hx hb dX8_pulling_19 rfl (lv_at hl 0 rfl) ?_
        refine g_lald hC V 2 rfl (vp_in_nI (by omega) (by omega)) (v := (fr k4)) (congrArg _ (nI_clamp (by omega))) dX8_pulling_20 ?_
        refine lv_iload_n hx hb dX8_pulling_21 rfl (lv_at hl 3 rfl) ?_
        refine g_callSU (nA := 2) hC V hl.1 (m_isIn l D T (fr k4) t) w_1130 w_1131 w_9 w_1132 (by decide +kernel) rfl ⟨(Nat.le_of_ble_eq_true rfl), (Nat.le_of_ble_eq_true rfl)⟩ [] rfl rfl (Nat.le_of_ble_eq_true rfl) dX8_pulling_22 ⟨(Nat.le_of_ble_eq_true rfl), (Nat.le_of_ble_eq_true rfl)⟩ rfl (fun r w1 H locs hQ V => ?_)
        rcases hQ with ⟨rfl, rfl⟩ | ⟨rfl, rfl⟩
        · have V : gW D T A s [(o, .inr (8, [.int w0, .ref g1, .ref g2, .ref g3, .ref g4, .int (nI tp), .int w6, .int w7, .int w8, .int w9, .int w10, .int w11, .int w12, .int w13, .int w14, .ref g15, .int w16, .ref g17, .int w18, .int w19, .ref g20, .int w21, .ref g22, .ref g23, .ref g24, .int w25, .int w26, .int w27, .ref g28, .ref g29, .int w30, .ref g31, .ref g32, .ref g33])), (g1, .inl (T 0, 282, .inl fa)), (g20, .inl (T 1, 10, .inr (.inl fr)))] H locs := V _ [] rfl rfl rfl (by decide +kernel) rfl
          show W p l e _ s m args below meth c H locs _ _ _ (F0 m 25 ls [.int (nI 1), .int x4_2])
          refine lv_if_eq (tgt := 34) hx hb dX8_pulling_25 (by decide) (fun c => absurd (show (nI 1) = 0 from c) (by decide +kernel)) (fun _ => ?_)
          refine lv_iconst (v := (nI 1)) hx hb dX8_pulling_28 (by decide +kernel) ?_
          refine lv_iload_n hx hb dX8_pulling_29 rfl (lv_at hl 0 rfl) ?_
          refine lv_ishl hx hb dX8_pulling_30 ?_
          refine lv_goto (tgt := 35) hx hb dX8_pulling_31 (by decide) ?_
          refine lv_ior hx hb dX8_pulling_35 ?_
          refine lv_istore_n (lv' := [(2, .int (x4_2 ||| ((nI 1) <<< ((nI k4) &&& 31)))), (3, .int (nI k4)), (0, .ref o), (1, .int t)]) hx hb dX8_pulling_36 rfl hl (by decide) rfl (fun ls hl => ?_)
          refine lv_iinc (v := (nI (k4 + 1))) (lv' := [(3, .int (nI (k4 + 1))), (2, .int (x4_2 ||| ((nI 1) <<< ((nI k4) &&& 31)))), (0, .ref o), (1, .int t)]) hx hb dX8_pulling_37 hl (k := 1) rfl (nI_1 _) (by decide) rfl (fun ls hl => ?_)
          refine lv_goto (tgt := 4) hx hb dX8_pulling_40 (by decide) ?_
          exact ih_4 (k4 + 1) (x4_2 ||| ((nI 1) <<< ((nI k4) &&& 31))) (by omega) (by omega) _ _ _ V (lv_sub hl [0, 1, 2, 3] rfl)
        · have V : gW D T A s [(o, .inr (8, [.int w0, .ref g1, .ref g2, .ref g3, .ref g4, .int (nI tp), .int w6, .int w7, .int w8, .int w9, .int w10, .int w11, .int w12, .int w13, .int w14, .ref g15, .int w16, .ref g17, .int w18, .int w19, .ref g20, .int w21, .ref g22, .ref g23, .ref g24, .int w25, .int w26, .int w27, .ref g28, .ref g29, .int w30, .ref g31, .ref g32, .ref g33])), (g1, .inl (T 0, 282, .inl fa)), (g20, .inl (T 1, 10, .inr (.inl fr)))] H locs := V _ [] rfl rfl rfl (by decide +kernel) rfl
          show W p l e _ s m args below meth c H locs _ _ _ (F0 m 25 ls [.int (nI 0), .int x4_2])
          refine lv_if_eq (tgt := 34) hx hb dX8_pulling_25 (by decide) (fun _ => ?_) (fun c => absurd (show (nI 0) = 0 by decide +kernel) c)
          refine lv_iconst (v := (nI 0)) hx hb dX8_pulling_34 (by decide +kernel) ?_
          refine lv_ior hx hb dX8_pulling_35 ?_
          refine lv_istore_n (lv' := [(2, .int (x4_2 ||| (nI 0))), (3, .int (nI k4)), (0, .ref o), (1, .int t)]) hx hb dX8_pulling_36 rfl hl (by decide) rfl (fun ls hl => ?_)
          refine lv_iinc (v := (nI (k4 + 1))) (lv' := [(3, .int (nI (k4 + 1))), (2, .int (x4_2 ||| (nI 0))), (0, .ref o), (1, .int t)]) hx hb dX8_pulling_37 hl (k := 1) rfl (nI_1 _) (by decide) rfl (fun ls hl => ?_)
          refine lv_goto (tgt := 4) hx hb dX8_pulling_40 (by decide) ?_
          exact ih_4 (k4 + 1) (x4_2 ||| (nI 0)) (by omega) (by omega) _ _ _ V (lv_sub hl [0, 1, 2, 3] rfl)
  exact L_1 _ 0 (nI 0) (by omega) (Nat.lt_succ_self _) _ _ _ V (lv_sub hl [0, 1, 2, 3] rfl)

theorem dn_pos {k : Nat} {x : Int32} (e : x = nI k - nI 1) (hk : k ≤ 1000) (h : ¬ x < 0) : 1 ≤ k ∧ x = nI (k - 1) := by
  have h1 : 1 ≤ k := by
    rcases Nat.eq_zero_or_pos k with h0 | h0
    · subst h0
      exfalso
      apply h
      rw [e]
      decide +kernel
    · exact h0
  exact ⟨h1, by rw [e, nI_sub h1]⟩
theorem dn_step (x : Int32) : x + -1 = x - nI 1 := by
  rw [Int32.sub_eq_add_neg]
  rfl

def q_m_holdsBy (T : Nat → ClassId) (n : Nat) (o : Nat) (le : Nat) (w0 : Int32) (g1 : Nat) (g2 : Nat) (g3 : Nat) (g4 : Nat) (tp : Nat) (w6 : Int32) (w7 : Int32) (w8 : Int32) (w9 : Int32) (w10 : Int32) (w11 : Int32) (w12 : Int32) (w13 : Int32) (w14 : Int32) (g15 : Nat) (w16 : Int32) (g17 : Nat) (w18 : Int32) (w19 : Int32) (g20 : Nat) (w21 : Int32) (g22 : Nat) (g23 : Nat) (g24 : Nat) (w25 : Int32) (w26 : Int32) (w27 : Int32) (g28 : Nat) (g29 : Nat) (w30 : Int32) (g31 : Nat) (g32 : Nat) (g33 : Nat) (fa : Nat → Int32) (fh : Nat → Int32) (fk : Nat → Int32) (fr : Nat → Int64) : Option Value → va_W → Prop := fun rr ww => (∃ (z : Int32) (wq : Int32) (gh : Nat → Int32) (gk : Nat → Int32), rr = some (.int z) ∧ ww = [(o, .inr (8, [.int w0, .ref g1, .ref g2, .ref g3, .ref g4, .int (nI tp), .int w6, .int w7, .int w8, .int w9, .int w10, .int w11, .int w12, .int w13, .int w14, .ref g15, .int w16, .ref g17, .int w18, .int w19, .ref g20, .int wq, .ref g22, .ref g23, .ref g24, .int w25, .int w26, .int w27, .ref g28, .ref g29, .int w30, .ref g31, .ref g32, .ref g33])), (g1, .inl (T 0, 282, .inl fa)), (g15, .inl (T 0, 10, .inl gh)), (g17, .inl (T 0, 94, .inl gk)), (g20, .inl (T 1, 10, .inr (.inl fr)))])
set_option maxHeartbeats 4000000 in
set_option maxRecDepth 100000 in
theorem m_holdsBy (l : Launch) (D : va_G) (T : Nat → ClassId) (n : Nat) (o : Nat) (le : Nat) (w0 : Int32) (g1 : Nat) (g2 : Nat) (g3 : Nat) (g4 : Nat) (tp : Nat) (w6 : Int32) (w7 : Int32) (w8 : Int32) (w9 : Int32) (w10 : Int32) (w11 : Int32) (w12 : Int32) (w13 : Int32) (w14 : Int32) (g15 : Nat) (w16 : Int32) (g17 : Nat) (w18 : Int32) (w19 : Int32) (g20 : Nat) (w21 : Int32) (g22 : Nat) (g23 : Nat) (g24 : Nat) (w25 : Int32) (w26 : Int32) (w27 : Int32) (g28 : Nat) (g29 : Nat) (w30 : Int32) (g31 : Nat) (g32 : Nat) (g33 : Nat) (fa : Nat → Int32) (fh : Nat → Int32) (fk : Nat → Int32) (fr : Nat → Int64) (h_a : MI n fa) (h_l : 1 ≤ le ∧ le ≤ 12) : Ct l yX8_holdsBy cX8_holdsBy 6 (some .int) 3 0 0 D T [.ref o, .int (nI le)] [(o, .inr (8, [.int w0, .ref g1, .ref g2, .ref g3, .ref g4, .int (nI tp), .int w6, .int w7, .int w8, .int w9, .int w10, .int w11, .int w12, .int w13, .int w14, .ref g15, .int w16, .ref g17, .int w18, .int w19, .ref g20, .int w21, .ref g22, .ref g23, .ref g24, .int w25, .int w26, .int w27, .ref g28, .ref g29, .int w30, .ref g31, .ref g32, .ref g33])), (g1, .inl (T 0, 282, .inl fa)), (g15, .inl (T 0, 10, .inl fh)), (g17, .inl (T 0, 94, .inl fk)), (g20, .inl (T 1, 10, .inr (.inl fr)))] (q_m_holdsBy T n o le w0 g1 g2 g3 g4 tp w6 w7 w8 w9 w10 w11 w12 w13 w14 g15 w16 g17 w18 w19 g20 w21 g22 g23 g24 w25 w26 w27 g28 g29 w30 g31 g32 g33 fa fh fk fr) := by
  refine Ct.of (cc := cX8_holdsBy) (maxL := 6) (ret := (some .int)) (by decide) (Nat.le_of_ble_eq_true rfl) ?_
  intro p e s m args below meth c A ls hC hnm V hl
  obtain ⟨hx, hb, hr, hml, hown, hts, hlocks⟩ := id hC
  generalize hH : s.heap = H at V ⊢
  clear hH
  have hl : lv_has ls 6 [(0, .ref o), (1, .int (nI le))] := hl
  generalize hlo : ([] : List Loc) = locs at V ⊢
  clear hlo
  have ms0 := ms_rf h_a
  have hn10 := h_a.1
  refine lv_aload_n hx hb dX8_holdsBy_0 rfl (lv_at hl 0 rfl) ?_
  refine g_callVU (nA := 0) hC V hl.1 (m_keeps l D T o w0 g1 g2 g3 g4 tp w6 w7 w8 w9 w10 w11 w12 w13 w14 g15 w16 g17 w18 w19 g20 w21 g22 g23 g24 w25 w26 w27 g28 g29 w30 g31 g32 g33 fa fk) w_1146 w_1148 w_s53 w_9 w_1149 (by decide +kernel) rfl ⟨(Nat.le_of_ble_eq_true rfl), (Nat.le_of_ble_eq_true rfl)⟩ 0 (ci := 8) rfl rfl [0, 1, 3] rfl rfl (Nat.le_of_ble_eq_true rfl) dX8_holdsBy_1 ⟨(Nat.le_of_ble_eq_true rfl), (Nat.le_of_ble_eq_true rfl)⟩ rfl (fun r w1 H locs hQ V => ?_)
  obtain ⟨gk_1, rfl, rfl, f_2⟩ := hQ
  have V : gW D T A s [(o, .inr (8, [.int w0, .ref g1, .ref g2, .ref g3, .ref g4, .int (nI tp), .int w6, .int w7, .int w8, .int w9, .int w10, .int w11, .int w12, .int w13, .int w14, .ref g15, .int w16, .ref g17, .int w18, .int w19, .ref g20, .int w21, .ref g22, .ref g23, .ref g24, .int w25, .int w26, .int w27, .ref g28, .ref g29, .int w30, .ref g31, .ref g32, .ref g33])), (g1, .inl (T 0, 282, .inl fa)), (g15, .inl (T 0, 10, .inl fh)), (g17, .inl (T 0, 94, .inl gk_1)), (g20, .inl (T 1, 10, .inr (.inl fr)))] H locs := V _ [0, 0, 1] rfl rfl rfl (by decide +kernel) rfl
  show W p l e _ s m args below meth c H locs _ _ _ (F0 m 4 ls [])
  refine lv_iconst (v := (-1)) hx hb dX8_holdsBy_4 (by decide +kernel) ?_
  refine lv_istore_n (lv' := [(2, .int (-1)), (0, .ref o), (1, .int (nI le))]) hx hb dX8_holdsBy_5 rfl hl (by decide) rfl (fun ls hl => ?_)
  refine lv_aload_n hx hb dX8_holdsBy_6 rfl (lv_at hl 1 rfl) ?_
  refine lv_iconst (v := (-1)) hx hb dX8_holdsBy_7 (by decide +kernel) ?_
  refine g_put hC V (ci := 8) uwX8 tyX8 tyX8_ok nmX8 0 rfl rfl 21 (by decide) w_933 rfl rfl rfl rfl (Nat.le_of_ble_eq_true rfl) (ws' := [(o, .inr (8, [.int w0, .ref g1, .ref g2, .ref g3, .ref g4, .int (nI tp), .int w6, .int w7, .int w8, .int w9, .int w10, .int w11, .int w12, .int w13, .int w14, .ref g15, .int w16, .ref g17, .int w18, .int w19, .ref g20, .int (-1), .ref g22, .ref g23, .ref g24, .int w25, .int w26, .int w27, .ref g28, .ref g29, .int w30, .ref g31, .ref g32, .ref g33])), (g1, .inl (T 0, 282, .inl fa)), (g15, .inl (T 0, 10, .inl fh)), (g17, .inl (T 0, 94, .inl gk_1)), (g20, .inl (T 1, 10, .inr (.inl fr)))]) rfl dX8_holdsBy_8 (fun H locs V => ?_)
  refine lv_iconst (v := (nI 0)) hx hb dX8_holdsBy_11 (by decide +kernel) ?_
  refine lv_istore_n (lv' := [(3, .int (nI 0)), (2, .int (-1)), (0, .ref o), (1, .int (nI le))]) hx hb dX8_holdsBy_12 rfl hl (by decide) rfl (fun ls hl => ?_)
  have L_3 : ∀ (fu : Nat) (k13 : Nat) (x13_2 : Int32) (wv : Int32) (th : Nat → Int32) (f13 : Nat → Int32), k13 ≤ 201 * le + 2 → MS n fa f13 → 201 * le + 2 - k13 < fu → ∀ (H : Heap) (locs : List Loc) (ls : Array Slot), gW D T A s [(o, .inr (8, [.int w0, .ref g1, .ref g2, .ref g3, .ref g4, .int (nI tp), .int w6, .int w7, .int w8, .int w9, .int w10, .int w11, .int w12, .int w13, .int w14, .ref g15, .int w16, .ref g17, .int w18, .int w19, .ref g20, .int wv, .ref g22, .ref g23, .ref g24, .int w25, .int w26, .int w27, .ref g28, .ref g29, .int w30, .ref g31, .ref g32, .ref g33])), (g1, .inl (T 0, 282, .inl f13)), (g15, .inl (T 0, 10, .inl th)), (g17, .inl (T 0, 94, .inl gk_1)), (g20, .inl (T 1, 10, .inr (.inl fr)))] H locs → lv_has ls 6 [(3, .int (nI k13)), (2, .int x13_2), (0, .ref o), (1, .int (nI le))] → W p l e (rmD 3 0 0) s m args below meth c H locs 0 0 (MQ below (gQ D A (q_m_holdsBy T n o le w0 g1 g2 g3 g4 tp w6 w7 w8 w9 w10 w11 w12 w13 w14 g15 w16 g17 w18 w19 g20 w21 g22 g23 g24 w25 w26 w27 g28 g29 w30 g31 g32 g33 fa fh fk fr)) args s 0 0 A) (F0 m 13 ls []) := by
    intro fu_13
    induction fu_13 with
    | zero => intro k13 x13_2 wv th f13 hk13 hf13 hmu; exact absurd hmu (Nat.not_lt_zero _)
    | succ fu_13 ih_13 =>
      intro k13 x13_2 wv th f13 hk13 hf13 hmu_13 H locs ls V hl
      refine lv_iload_n hx hb dX8_holdsBy_13 rfl (lv_at hl 0 rfl) ?_
      refine lv_sipush (v := (nI 201)) hx hb dX8_holdsBy_14 (by decide +kernel) ?_
      refine lv_iload_n hx hb dX8_holdsBy_17 rfl (lv_at hl 3 rfl) ?_
      refine lv_imul hx hb dX8_holdsBy_18 ?_
      refine g_vi (y := (nI (201 * le))) (pk_mul _ _) ?_
      refine lv_iconst (v := (nI 2)) hx hb dX8_holdsBy_19 (by decide +kernel) ?_
      refine lv_iadd hx hb dX8_holdsBy_20 ?_
      refine g_vi (y := (nI ((201 * le) + 2))) (nI_add _ _) ?_
      refine lv_icmp_ge (tgt := 140) hx hb dX8_holdsBy_21 (by decide) (fun c_4 => ?_) (fun c_4 => ?_)
      · skip
        have c_4 := b_le (by omega) (by omega) c_4
        refine lv_aload_n hx hb dX8_holdsBy_140 rfl (lv_at hl 2 rfl) ?_
        refine g_callVU (nA := 0) hC V hl.1 (m_isAgain l D T o w0 g1 g2 g3 g4 tp w6 w7 w8 w9 w10 w11 w12 w13 w14 g15 w16 g17 w18 w19 g20 wv g22 g23 g24 w25 w26 w27 g28 g29 w30 g31 g32 g33 f13 gk_1) w_1162 w_1164 w_s57 w_9 w_1165 (by decide +kernel) rfl ⟨(Nat.le_of_ble_eq_true rfl), (Nat.le_of_ble_eq_true rfl)⟩ 0 (ci := 8) rfl rfl [0, 1, 3] rfl rfl (Nat.le_of_ble_eq_true rfl) dX8_holdsBy_141 ⟨(Nat.le_of_ble_eq_true rfl), (Nat.le_of_ble_eq_true rfl)⟩ rfl (fun r w1 H locs hQ V => ?_)
        obtain ⟨ga_5, rfl, rfl, f_6, f_7⟩ := hQ
        have V : gW D T A s [(o, .inr (8, [.int w0, .ref g1, .ref g2, .ref g3, .ref g4, .int (nI tp), .int w6, .int w7, .int w8, .int w9, .int w10, .int w11, .int w12, .int w13, .int w14, .ref g15, .int w16, .ref g17, .int w18, .int w19, .ref g20, .int wv, .ref g22, .ref g23, .ref g24, .int w25, .int w26, .int w27, .ref g28, .ref g29, .int w30, .ref g31, .ref g32, .ref g33])), (g1, .inl (T 0, 282, .inl ga_5)), (g15, .inl (T 0, 10, .inl th)), (g17, .inl (T 0, 94, .inl gk_1)), (g20, .inl (T 1, 10, .inr (.inl fr)))] H locs := V _ [0, 0, 1] rfl rfl rfl (by decide +kernel) rfl
        show W p l e _ s m args below meth c H locs _ _ _ (F0 m 144 ls [])
        have ega_5 : ga_5 = fa := funext (fun j => if h : j < 94 then (f_6 j h).trans (f_2 j h) else (f_7 j (by omega)).trans ((by assumption : MS n fa _).2 j (by omega)))
        rw [ega_5] at V
        refine lv_iload_n hx hb dX8_holdsBy_144 rfl (lv_at hl 1 rfl) ?_
        exact g_iret (Qr := (q_m_holdsBy T n o le w0 g1 g2 g3 g4 tp w6 w7 w8 w9 w10 w11 w12 w13 w14 g15 w16 g17 w18 w19 g20 w21 g22 g23 g24 w25 w26 w27 g28 g29 w30 g31 g32 g33 fa fh fk fr)) hC V ⟨(Nat.le_of_ble_eq_true rfl), (Nat.le_of_ble_eq_true rfl)⟩ ⟨x13_2, wv, th, gk_1, rfl, rfl⟩ dX8_holdsBy_145
      · skip
        have c_4 := b_nle (by omega) (by omega) c_4
        refine lv_iload_n hx hb dX8_holdsBy_24 rfl (lv_at hl 1 rfl) ?_
        refine lv_iconst (v := (-1)) hx hb dX8_holdsBy_25 (by decide +kernel) ?_
        refine lv_icmp_ne (tgt := 140) hx hb dX8_holdsBy_26 (by decide) (fun c_8 => ?_) (fun c_8 => ?_)
        · skip
          refine lv_aload_n hx hb dX8_holdsBy_140 rfl (lv_at hl 2 rfl) ?_
          refine g_callVU (nA := 0) hC V hl.1 (m_isAgain l D T o w0 g1 g2 g3 g4 tp w6 w7 w8 w9 w10 w11 w12 w13 w14 g15 w16 g17 w18 w19 g20 wv g22 g23 g24 w25 w26 w27 g28 g29 w30 g31 g32 g33 f13 gk_1) w_1162 w_1164 w_s57 w_9 w_1165 (by decide +kernel) rfl ⟨(Nat.le_of_ble_eq_true rfl), (Nat.le_of_ble_eq_true rfl)⟩ 0 (ci := 8) rfl rfl [0, 1, 3] rfl rfl (Nat.le_of_ble_eq_true rfl) dX8_holdsBy_141 ⟨(Nat.le_of_ble_eq_true rfl), (Nat.le_of_ble_eq_true rfl)⟩ rfl (fun r w1 H locs hQ V => ?_)
          obtain ⟨ga_9, rfl, rfl, f_10, f_11⟩ := hQ
          have V : gW D T A s [(o, .inr (8, [.int w0, .ref g1, .ref g2, .ref g3, .ref g4, .int (nI tp), .int w6, .int w7, .int w8, .int w9, .int w10, .int w11, .int w12, .int w13, .int w14, .ref g15, .int w16, .ref g17, .int w18, .int w19, .ref g20, .int wv, .ref g22, .ref g23, .ref g24, .int w25, .int w26, .int w27, .ref g28, .ref g29, .int w30, .ref g31, .ref g32, .ref g33])), (g1, .inl (T 0, 282, .inl ga_9)), (g15, .inl (T 0, 10, .inl th)), (g17, .inl (T 0, 94, .inl gk_1)), (g20, .inl (T 1, 10, .inr (.inl fr)))] H locs := V _ [0, 0, 1] rfl rfl rfl (by decide +kernel) rfl
          show W p l e _ s m args below meth c H locs _ _ _ (F0 m 144 ls [])
          have ega_9 : ga_9 = fa := funext (fun j => if h : j < 94 then (f_10 j h).trans (f_2 j h) else (f_11 j (by omega)).trans ((by assumption : MS n fa _).2 j (by omega)))
          rw [ega_9] at V
          refine lv_iload_n hx hb dX8_holdsBy_144 rfl (lv_at hl 1 rfl) ?_
          exact g_iret (Qr := (q_m_holdsBy T n o le w0 g1 g2 g3 g4 tp w6 w7 w8 w9 w10 w11 w12 w13 w14 g15 w16 g17 w18 w19 g20 w21 g22 g23 g24 w25 w26 w27 g28 g29 w30 g31 g32 g33 fa fh fk fr)) hC V ⟨(Nat.le_of_ble_eq_true rfl), (Nat.le_of_ble_eq_true rfl)⟩ ⟨x13_2, wv, th, gk_1, rfl, rfl⟩ dX8_holdsBy_145
        · skip
          refine lv_aload_n hx hb dX8_holdsBy_29 rfl (lv_at hl 2 rfl) ?_
          refine lv_iload_n hx hb dX8_holdsBy_30 rfl (lv_at hl 0 rfl) ?_
          refine lv_iload_n hx hb dX8_holdsBy_31 rfl (lv_at hl 3 rfl) ?_
          refine lv_irem hx hb dX8_holdsBy_32 (nI_ne0 (by omega) (by omega)) ?_
          refine g_callVU (nA := 1) hC V hl.1 (m_pulling l D T n o ((nI k13) - (nI k13) / (nI le) * (nI le)) w0 g1 g2 g3 g4 tp w6 w7 w8 w9 w10 w11 w12 w13 w14 g15 w16 g17 w18 w19 g20 wv g22 g23 g24 w25 w26 w27 g28 g29 w30 g31 g32 g33 f13 fr hf13.1) w_1233 w_1235 w_s65 w_9 w_1236 (by decide +kernel) rfl ⟨(Nat.le_of_ble_eq_true rfl), (Nat.le_of_ble_eq_true rfl)⟩ 0 (ci := 8) rfl rfl [0, 1, 4] rfl rfl (Nat.le_of_ble_eq_true rfl) dX8_holdsBy_33 ⟨(Nat.le_of_ble_eq_true rfl), (Nat.le_of_ble_eq_true rfl)⟩ rfl (fun r w1 H locs hQ V => ?_)
          obtain ⟨z_12, rfl, rfl⟩ := hQ
          have V : gW D T A s [(o, .inr (8, [.int w0, .ref g1, .ref g2, .ref g3, .ref g4, .int (nI tp), .int w6, .int w7, .int w8, .int w9, .int w10, .int w11, .int w12, .int w13, .int w14, .ref g15, .int w16, .ref g17, .int w18, .int w19, .ref g20, .int wv, .ref g22, .ref g23, .ref g24, .int w25, .int w26, .int w27, .ref g28, .ref g29, .int w30, .ref g31, .ref g32, .ref g33])), (g1, .inl (T 0, 282, .inl f13)), (g15, .inl (T 0, 10, .inl th)), (g17, .inl (T 0, 94, .inl gk_1)), (g20, .inl (T 1, 10, .inr (.inl fr)))] H locs := V _ [0, 0, 2] rfl rfl rfl (by decide +kernel) rfl
          show W p l e _ s m args below meth c H locs _ _ _ (F0 m 36 ls [.int z_12])
          refine lv_istore (lv' := [(4, .int z_12), (3, .int (nI k13)), (2, .int x13_2), (0, .ref o), (1, .int (nI le))]) hx hb dX8_holdsBy_36 hl (by decide) rfl (fun ls hl => ?_)
          refine lv_iconst (v := (nI 0)) hx hb dX8_holdsBy_38 (by decide +kernel) ?_
          refine lv_istore (lv' := [(5, .int (nI 0)), (4, .int z_12), (3, .int (nI k13)), (2, .int x13_2), (0, .ref o), (1, .int (nI le))]) hx hb dX8_holdsBy_39 hl (by decide) rfl (fun ls hl => ?_)
          have L_13 : ∀ (fu : Nat) (k41 : Nat) (th2 : Nat → Int32), k41 ≤ n → (∀ i, i < k41 → bd (th2 i) 201) → n - k41 < fu → ∀ (H : Heap) (locs : List Loc) (ls : Array Slot), gW D T A s [(o, .inr (8, [.int w0, .ref g1, .ref g2, .ref g3, .ref g4, .int (nI tp), .int w6, .int w7, .int w8, .int w9, .int w10, .int w11, .int w12, .int w13, .int w14, .ref g15, .int w16, .ref g17, .int w18, .int w19, .ref g20, .int wv, .ref g22, .ref g23, .ref g24, .int w25, .int w26, .int w27, .ref g28, .ref g29, .int w30, .ref g31, .ref g32, .ref g33])), (g1, .inl (T 0, 282, .inl f13)), (g15, .inl (T 0, 10, .inl th2)), (g17, .inl (T 0, 94, .inl gk_1)), (g20, .inl (T 1, 10, .inr (.inl fr)))] H locs → lv_has ls 6 [(5, .int (nI k41)), (4, .int z_12), (3, .int (nI k13)), (2, .int x13_2), (0, .ref o), (1, .int (nI le))] → W p l e (rmD 3 0 0) s m args below meth c H locs 0 0 (MQ below (gQ D A (q_m_holdsBy T n o le w0 g1 g2 g3 g4 tp w6 w7 w8 w9 w10 w11 w12 w13 w14 g15 w16 g17 w18 w19 g20 w21 g22 g23 g24 w25 w26 w27 g28 g29 w30 g31 g32 g33 fa fh fk fr)) args s 0 0 A) (F0 m 41 ls []) := by
            intro fu_41
            induction fu_41 with
            | zero => intro k41 th2 hk41 ht2 hmu; exact absurd hmu (Nat.not_lt_zero _)
            | succ fu_41 ih_41 =>
              intro k41 th2 hk41 ht2 hmu_41 H locs ls V hl
              refine lv_iload hx hb dX8_holdsBy_41 (lv_at hl 0 rfl) ?_
              refine lv_aload_n hx hb dX8_holdsBy_43 rfl (lv_at hl 4 rfl) ?_
              refine g_get hC V (ci := 8) uwX8 0 rfl rfl 1 (by decide) w_913 rfl rfl dX8_holdsBy_44 ?_
              refine lv_iconst (v := (nI 0)) hx hb dX8_holdsBy_47 (by decide +kernel) ?_
              refine g_iald hC V 1 rfl (vp_in_nI (by decide) (by decide)) (v := (nI n)) (by rw [nI_clamp (by decide)]; first | rfl | exact h_a.2.1 | exact hf13.1.2.1 | exact hf84.1.2.1) dX8_holdsBy_48 ?_
              refine lv_icmp_ge (tgt := 74) hx hb dX8_holdsBy_49 (by decide) (fun c_14 => ?_) (fun c_14 => ?_)
              · skip
                have c_14 := b_le (by omega) (by omega) c_14
                have hth2 : ∀ i, i < n → bd (th2 i) 201 := fun i h => ht2 i (by omega)
                refine lv_aload_n hx hb dX8_holdsBy_74 rfl (lv_at hl 4 rfl) ?_
                refine g_get hC V (ci := 8) uwX8 0 rfl rfl 1 (by decide) w_913 rfl rfl dX8_holdsBy_75 ?_
                refine lv_iconst (v := (nI 0)) hx hb dX8_holdsBy_78 (by decide +kernel) ?_
                refine g_iald hC V 1 rfl (vp_in_nI (by decide) (by decide)) (v := (nI n)) (by rw [nI_clamp (by decide)]; first | rfl | exact h_a.2.1 | exact hf13.1.2.1 | exact hf84.1.2.1) dX8_holdsBy_79 ?_
                refine lv_iconst (v := (nI 1)) hx hb dX8_holdsBy_80 (by decide +kernel) ?_
                refine lv_isub hx hb dX8_holdsBy_81 ?_
                refine lv_istore (lv' := [(5, .int ((nI n) - (nI 1))), (4, .int z_12), (3, .int (nI k13)), (2, .int x13_2), (0, .ref o), (1, .int (nI le))]) hx hb dX8_holdsBy_82 hl (by decide) rfl (fun ls hl => ?_)
                have L_15 : ∀ (fu : Nat) (iv : Int32) (x84_2 : Int32) (wv2 : Int32) (f84 : Nat → Int32) (kd : Nat), MS n fa f84 → iv = nI kd - nI 1 → kd ≤ n → kd < fu → ∀ (H : Heap) (locs : List Loc) (ls : Array Slot), gW D T A s [(o, .inr (8, [.int w0, .ref g1, .ref g2, .ref g3, .ref g4, .int (nI tp), .int w6, .int w7, .int w8, .int w9, .int w10, .int w11, .int w12, .int w13, .int w14, .ref g15, .int w16, .ref g17, .int w18, .int w19, .ref g20, .int wv2, .ref g22, .ref g23, .ref g24, .int w25, .int w26, .int w27, .ref g28, .ref g29, .int w30, .ref g31, .ref g32, .ref g33])), (g1, .inl (T 0, 282, .inl f84)), (g15, .inl (T 0, 10, .inl th2)), (g17, .inl (T 0, 94, .inl gk_1)), (g20, .inl (T 1, 10, .inr (.inl fr)))] H locs → lv_has ls 6 [(5, .int iv), (4, .int z_12), (3, .int (nI k13)), (2, .int x84_2), (0, .ref o), (1, .int (nI le))] → W p l e (rmD 3 0 0) s m args below meth c H locs 0 0 (MQ below (gQ D A (q_m_holdsBy T n o le w0 g1 g2 g3 g4 tp w6 w7 w8 w9 w10 w11 w12 w13 w14 g15 w16 g17 w18 w19 g20 w21 g22 g23 g24 w25 w26 w27 g28 g29 w30 g31 g32 g33 fa fh fk fr)) args s 0 0 A) (F0 m 84 ls []) := by
                  intro fu_84
                  induction fu_84 with
                  | zero => intro iv x84_2 wv2 f84 kd hf84 hiv hkd hmu; exact absurd hmu (Nat.not_lt_zero _)
                  | succ fu_84 ih_84 =>
                    intro iv x84_2 wv2 f84 kd hf84 hiv hkd hmu_84 H locs ls V hl
                    refine lv_iload hx hb dX8_holdsBy_84 (lv_at hl 0 rfl) ?_
                    refine lv_if_lt (tgt := 134) hx hb dX8_holdsBy_86 (by decide) (fun c_16 => ?_) (fun c_16 => ?_)
                    · skip
                      refine lv_iinc (v := (nI (k13 + 1))) (lv' := [(3, .int (nI (k13 + 1))), (5, .int iv), (4, .int z_12), (2, .int x84_2), (0, .ref o), (1, .int (nI le))]) hx hb dX8_holdsBy_134 hl (k := 2) rfl (nI_1 _) (by decide) rfl (fun ls hl => ?_)
                      refine lv_goto (tgt := 13) hx hb dX8_holdsBy_137 (by decide) ?_
                      exact ih_13 (k13 + 1) x84_2 wv2 th2 f84 (by omega) (by assumption) (by omega) _ _ _ V (lv_sub hl [0, 3, 4, 5] rfl)
                    · skip
                      obtain ⟨h1kd, ekd⟩ := dn_pos hiv (by omega) c_16
                      rw [ekd] at hl
                      refine lv_aload_n hx hb dX8_holdsBy_89 rfl (lv_at hl 4 rfl) ?_
                      refine g_get hC V (ci := 8) uwX8 0 rfl rfl 1 (by decide) w_913 rfl rfl dX8_holdsBy_90 ?_
                      refine lv_bipush (v := (nI 24)) hx hb dX8_holdsBy_93 (by decide +kernel) ?_
                      refine lv_iload hx hb dX8_holdsBy_95 (lv_at hl 0 rfl) ?_
                      refine lv_iadd hx hb dX8_holdsBy_97 ?_
                      refine g_vi (y := (nI (24 + (kd - 1)))) (nI_add _ _) ?_
                      refine lv_aload_n hx hb dX8_holdsBy_98 rfl (lv_at hl 4 rfl) ?_
                      refine g_get hC V (ci := 8) uwX8 0 rfl rfl 15 (by decide) w_927 rfl rfl dX8_holdsBy_99 ?_
                      refine lv_iload hx hb dX8_holdsBy_102 (lv_at hl 0 rfl) ?_
                      obtain ⟨j_17, hj_17, ej_17⟩ := bd_ex (hth2 (kd - 1) (by omega))
                      refine g_iald hC V 2 rfl (vp_in_nI (by omega) (by omega)) (v := (nI j_17)) (by rw [nI_clamp (by omega)]; exact ej_17) dX8_holdsBy_104 ?_
                      obtain ⟨f_18, ef_18⟩ : ∃ x, x = upd f84 (24 + (kd - 1)) (nI j_17) := ⟨_, rfl⟩
                      have hf_18 : MS n fa f_18 := by rw [ef_18]; exact ms_st (by assumption) (by omega) (by omega) (by intros; first | (exfalso; omega) | exact bd_nI (by omega) | exact bd_le ‹bd (nI j_17) _› (by omega) | assumption) (by intros; first | (exfalso; omega) | exact bd_nI (by omega) | exact bd_le ‹bd (nI j_17) _› (by omega) | assumption) (by intros; first | (exfalso; omega) | exact bd_nI (by omega) | exact bd_le ‹bd (nI j_17) _› (by omega) | assumption) (by intros; first | (exfalso; omega) | exact bd_nI (by omega) | exact bd_le ‹bd (nI j_17) _› (by omega) | assumption) (by intros; first | (exfalso; omega) | exact bd_nI (by omega) | exact bd_le ‹bd (nI j_17) _› (by omega) | assumption) (by intros; first | (exfalso; omega) | exact bd_nI (by omega) | exact bd_le ‹bd (nI j_17) _› (by omega) | assumption) (by intros; first | (exfalso; omega) | exact bd_nI (by omega) | exact bd_le ‹bd (nI j_17) _› (by omega) | assumption)
                      refine g_iast hC V 1 rfl (vp_in_nI (by omega) (by omega)) (f' := f_18) (by rw [nI_clamp (by omega)]; exact ef_18.symm) (ws' := [(o, .inr (8, [.int w0, .ref g1, .ref g2, .ref g3, .ref g4, .int (nI tp), .int w6, .int w7, .int w8, .int w9, .int w10, .int w11, .int w12, .int w13, .int w14, .ref g15, .int w16, .ref g17, .int w18, .int w19, .ref g20, .int wv2, .ref g22, .ref g23, .ref g24, .int w25, .int w26, .int w27, .ref g28, .ref g29, .int w30, .ref g31, .ref g32, .ref g33])), (g1, .inl (T 0, 282, .inl f_18)), (g15, .inl (T 0, 10, .inl th2)), (g17, .inl (T 0, 94, .inl gk_1)), (g20, .inl (T 1, 10, .inr (.inl fr)))]) rfl dX8_holdsBy_105 (fun H locs V => ?_)
                      refine lv_aload_n hx hb dX8_holdsBy_106 rfl (lv_at hl 4 rfl) ?_
                      refine lv_iload hx hb dX8_holdsBy_107 (lv_at hl 0 rfl) ?_
                      refine g_callVU (nA := 1) hC V hl.1 (m_isWarm l D T o (kd - 1) w0 g1 g2 g3 g4 tp w6 w7 w8 w9 w10 w11 w12 w13 w14 g15 w16 g17 w18 w19 g20 wv2 g22 g23 g24 w25 w26 w27 g28 g29 w30 g31 g32 g33 f_18 (by first | assumption | omega)) w_1136 w_1138 w_s52 w_9 w_1139 (by decide +kernel) rfl ⟨(Nat.le_of_ble_eq_true rfl), (Nat.le_of_ble_eq_true rfl)⟩ 0 (ci := 8) rfl rfl [0, 1] rfl rfl (Nat.le_of_ble_eq_true rfl) dX8_holdsBy_109 ⟨(Nat.le_of_ble_eq_true rfl), (Nat.le_of_ble_eq_true rfl)⟩ rfl (fun r w1 H locs hQ V => ?_)
                      rcases hQ with ⟨rfl, rfl⟩ | ⟨rfl, rfl⟩
                      · have V : gW D T A s [(o, .inr (8, [.int w0, .ref g1, .ref g2, .ref g3, .ref g4, .int (nI tp), .int w6, .int w7, .int w8, .int w9, .int w10, .int w11, .int w12, .int w13, .int w14, .ref g15, .int w16, .ref g17, .int w18, .int w19, .ref g20, .int wv2, .ref g22, .ref g23, .ref g24, .int w25, .int w26, .int w27, .ref g28, .ref g29, .int w30, .ref g31, .ref g32, .ref g33])), (g1, .inl (T 0, 282, .inl f_18)), (g15, .inl (T 0, 10, .inl th2)), (g17, .inl (T 0, 94, .inl gk_1)), (g20, .inl (T 1, 10, .inr (.inl fr)))] H locs := V _ [0, 0] rfl rfl rfl (by decide +kernel) rfl
                        show W p l e _ s m args below meth c H locs _ _ _ (F0 m 112 ls [.int (nI 1)])
                        refine lv_if_eq (tgt := 118) hx hb dX8_holdsBy_112 (by decide) (fun c => absurd (show (nI 1) = 0 from c) (by decide +kernel)) (fun _ => ?_)
                        refine lv_goto (tgt := 128) hx hb dX8_holdsBy_115 (by decide) ?_
                        refine lv_iinc (v := ((nI (kd - 1)) + (-1))) (lv' := [(5, .int ((nI (kd - 1)) + (-1))), (4, .int z_12), (3, .int (nI k13)), (2, .int x84_2), (0, .ref o), (1, .int (nI le))]) hx hb dX8_holdsBy_128 hl (k := 0) rfl rfl (by decide) rfl (fun ls hl => ?_)
                        refine lv_goto (tgt := 84) hx hb dX8_holdsBy_131 (by decide) ?_
                        exact ih_84 ((nI (kd - 1)) + (-1)) x84_2 wv2 f_18 (kd - 1) (by assumption) (dn_step _) (by omega) (by omega) _ _ _ V (lv_sub hl [0, 1, 2, 3, 4, 5] rfl)
                      · have V : gW D T A s [(o, .inr (8, [.int w0, .ref g1, .ref g2, .ref g3, .ref g4, .int (nI tp), .int w6, .int w7, .int w8, .int w9, .int w10, .int w11, .int w12, .int w13, .int w14, .ref g15, .int w16, .ref g17, .int w18, .int w19, .ref g20, .int wv2, .ref g22, .ref g23, .ref g24, .int w25, .int w26, .int w27, .ref g28, .ref g29, .int w30, .ref g31, .ref g32, .ref g33])), (g1, .inl (T 0, 282, .inl f_18)), (g15, .inl (T 0, 10, .inl th2)), (g17, .inl (T 0, 94, .inl gk_1)), (g20, .inl (T 1, 10, .inr (.inl fr)))] H locs := V _ [0, 0] rfl rfl rfl (by decide +kernel) rfl
                        show W p l e _ s m args below meth c H locs _ _ _ (F0 m 112 ls [.int (nI 0)])
                        refine lv_if_eq (tgt := 118) hx hb dX8_holdsBy_112 (by decide) (fun _ => ?_) (fun c => absurd (show (nI 0) = 0 by decide +kernel) c)
                        refine lv_iload_n hx hb dX8_holdsBy_118 rfl (lv_at hl 2 rfl) ?_
                        refine lv_iconst (v := (nI 1)) hx hb dX8_holdsBy_119 (by decide +kernel) ?_
                        refine lv_iadd hx hb dX8_holdsBy_120 ?_
                        refine g_vi (y := (nI (k13 + 1))) (nI_add _ _) ?_
                        refine lv_istore_n (lv' := [(2, .int (nI (k13 + 1))), (5, .int (nI (kd - 1))), (4, .int z_12), (3, .int (nI k13)), (0, .ref o), (1, .int (nI le))]) hx hb dX8_holdsBy_121 rfl hl (by decide) rfl (fun ls hl => ?_)
                        refine lv_aload_n hx hb dX8_holdsBy_122 rfl (lv_at hl 4 rfl) ?_
                        refine lv_iload hx hb dX8_holdsBy_123 (lv_at hl 1 rfl) ?_
                        refine g_put hC V (ci := 8) uwX8 tyX8 tyX8_ok nmX8 0 rfl rfl 21 (by decide) w_933 rfl rfl rfl rfl (Nat.le_of_ble_eq_true rfl) (ws' := [(o, .inr (8, [.int w0, .ref g1, .ref g2, .ref g3, .ref g4, .int (nI tp), .int w6, .int w7, .int w8, .int w9, .int w10, .int w11, .int w12, .int w13, .int w14, .ref g15, .int w16, .ref g17, .int w18, .int w19, .ref g20, .int (nI (kd - 1)), .ref g22, .ref g23, .ref g24, .int w25, .int w26, .int w27, .ref g28, .ref g29, .int w30, .ref g31, .ref g32, .ref g33])), (g1, .inl (T 0, 282, .inl f_18)), (g15, .inl (T 0, 10, .inl th2)), (g17, .inl (T 0, 94, .inl gk_1)), (g20, .inl (T 1, 10, .inr (.inl fr)))]) rfl dX8_holdsBy_125 (fun H locs V => ?_)
                        refine lv_iinc (v := ((nI (kd - 1)) + (-1))) (lv' := [(5, .int ((nI (kd - 1)) + (-1))), (2, .int (nI (k13 + 1))), (4, .int z_12), (3, .int (nI k13)), (0, .ref o), (1, .int (nI le))]) hx hb dX8_holdsBy_128 hl (k := 1) rfl rfl (by decide) rfl (fun ls hl => ?_)
                        refine lv_goto (tgt := 84) hx hb dX8_holdsBy_131 (by decide) ?_
                        exact ih_84 ((nI (kd - 1)) + (-1)) (nI (k13 + 1)) (nI (kd - 1)) f_18 (kd - 1) (by assumption) (dn_step _) (by omega) (by omega) _ _ _ V (lv_sub hl [0, 2, 3, 1, 4, 5] rfl)
                exact L_15 _ ((nI n) - (nI 1)) x13_2 wv f13 n (by assumption) rfl (Nat.le_refl _) (Nat.lt_succ_self _) _ _ _ V (lv_sub hl [0, 1, 2, 3, 4, 5] rfl)
              · skip
                have c_14 := b_nle (by omega) (by omega) c_14
                refine lv_aload_n hx hb dX8_holdsBy_52 rfl (lv_at hl 4 rfl) ?_
                refine g_get hC V (ci := 8) uwX8 0 rfl rfl 15 (by decide) w_927 rfl rfl dX8_holdsBy_53 ?_
                refine lv_iload hx hb dX8_holdsBy_56 (lv_at hl 0 rfl) ?_
                refine lv_aload_n hx hb dX8_holdsBy_58 rfl (lv_at hl 4 rfl) ?_
                refine lv_iload hx hb dX8_holdsBy_59 (lv_at hl 0 rfl) ?_
                refine lv_iload hx hb dX8_holdsBy_61 (lv_at hl 1 rfl) ?_
                refine lv_iconst (v := (nI 0)) hx hb dX8_holdsBy_63 (by decide +kernel) ?_
                refine g_callVU (nA := 3) hC V hl.1 (m_heatThen l D T n o k41 z_12 (nI 0) w0 g1 g2 g3 g4 tp w6 w7 w8 w9 w10 w11 w12 w13 w14 g15 w16 g17 w18 w19 g20 wv g22 g23 g24 w25 w26 w27 g28 g29 w30 g31 g32 g33 f13 hf13.1 (by first | assumption | omega)) w_1126 w_1128 w_s51 w_9 w_1129 (by decide +kernel) rfl ⟨(Nat.le_of_ble_eq_true rfl), (Nat.le_of_ble_eq_true rfl)⟩ 0 (ci := 8) rfl rfl [0, 1] rfl rfl (Nat.le_of_ble_eq_true rfl) dX8_holdsBy_64 ⟨(Nat.le_of_ble_eq_true rfl), (Nat.le_of_ble_eq_true rfl)⟩ rfl (fun r w1 H locs hQ V => ?_)
                obtain ⟨z_19, rfl, rfl, f_20⟩ := hQ
                have V : gW D T A s [(o, .inr (8, [.int w0, .ref g1, .ref g2, .ref g3, .ref g4, .int (nI tp), .int w6, .int w7, .int w8, .int w9, .int w10, .int w11, .int w12, .int w13, .int w14, .ref g15, .int w16, .ref g17, .int w18, .int w19, .ref g20, .int wv, .ref g22, .ref g23, .ref g24, .int w25, .int w26, .int w27, .ref g28, .ref g29, .int w30, .ref g31, .ref g32, .ref g33])), (g1, .inl (T 0, 282, .inl f13)), (g15, .inl (T 0, 10, .inl th2)), (g17, .inl (T 0, 94, .inl gk_1)), (g20, .inl (T 1, 10, .inr (.inl fr)))] H locs := V _ [0, 0] rfl rfl rfl (by decide +kernel) rfl
                show W p l e _ s m args below meth c H locs _ _ _ (F0 m 67 ls [.int z_19, .int (nI k41), .ref g15])
                refine g_iast hC V 2 rfl (vp_in_nI (by omega) (by omega)) (f' := (upd th2 k41 z_19)) (by rw [nI_clamp (by omega)]) (ws' := [(o, .inr (8, [.int w0, .ref g1, .ref g2, .ref g3, .ref g4, .int (nI tp), .int w6, .int w7, .int w8, .int w9, .int w10, .int w11, .int w12, .int w13, .int w14, .ref g15, .int w16, .ref g17, .int w18, .int w19, .ref g20, .int wv, .ref g22, .ref g23, .ref g24, .int w25, .int w26, .int w27, .ref g28, .ref g29, .int w30, .ref g31, .ref g32, .ref g33])), (g1, .inl (T 0, 282, .inl f13)), (g15, .inl (T 0, 10, .inl (upd th2 k41 z_19))), (g17, .inl (T 0, 94, .inl gk_1)), (g20, .inl (T 1, 10, .inr (.inl fr)))]) rfl dX8_holdsBy_67 (fun H locs V => ?_)
                refine lv_iinc (v := (nI (k41 + 1))) (lv' := [(5, .int (nI (k41 + 1))), (4, .int z_12), (3, .int (nI k13)), (2, .int x13_2), (0, .ref o), (1, .int (nI le))]) hx hb dX8_holdsBy_68 hl (k := 0) rfl (nI_1 _) (by decide) rfl (fun ls hl => ?_)
                refine lv_goto (tgt := 41) hx hb dX8_holdsBy_71 (by decide) ?_
                exact ih_41 (k41 + 1) (upd th2 k41 z_19) (by omega) (up_one (p := fun _ x => bd x 201) ht2 (by assumption)) (by omega) _ _ _ V (lv_sub hl [0, 1, 2, 3, 4, 5] rfl)
          exact L_13 _ 0 th (by omega) (fun i h => absurd h (Nat.not_lt_zero _)) (Nat.lt_succ_self _) _ _ _ V (lv_sub hl [0, 1, 2, 3, 4, 5] rfl)
  exact L_3 _ 0 (-1) (-1) fh fa (by omega) (by assumption) (Nat.lt_succ_self _) _ _ _ V (lv_sub hl [0, 1, 2, 3] rfl)

def q_m_takesRhythm (T : Nat → ClassId) (n : Nat) (o : Nat) (r : Nat) (le : Int32) (w0 : Int32) (g1 : Nat) (g2 : Nat) (g3 : Nat) (g4 : Nat) (tp : Nat) (w6 : Int32) (w7 : Int32) (w8 : Int32) (w9 : Int32) (w10 : Int32) (w11 : Int32) (w12 : Int32) (w13 : Int32) (w14 : Int32) (g15 : Nat) (w16 : Int32) (g17 : Nat) (w18 : Int32) (w19 : Int32) (g20 : Nat) (w21 : Int32) (g22 : Nat) (g23 : Nat) (g24 : Nat) (w25 : Int32) (w26 : Int32) (w27 : Int32) (g28 : Nat) (g29 : Nat) (w30 : Int32) (g31 : Nat) (g32 : Nat) (g33 : Nat) (fa : Nat → Int32) (fr : Nat → Int64) (fq : Nat → Int32) (fm : Nat → Int32) (fn : Nat → Int64) : Option Value → va_W → Prop := fun rr ww => (∃ (j : Nat) (gr : Nat → Int64), rr = some (.int (nI 0)) ∧ ww = [(o, .inr (8, [.int w0, .ref g1, .ref g2, .ref g3, .ref g4, .int (nI tp), .int w6, .int w7, .int w8, .int w9, .int w10, .int w11, .int w12, .int w13, .int w14, .ref g15, .int w16, .ref g17, .int w18, .int w19, .ref g20, .int w21, .ref g22, .ref g23, .ref g24, .int w25, .int w26, .int w27, .ref g28, .ref g29, .int w30, .ref g31, .ref g32, .ref g33])), (g1, .inl (T 0, 282, .inl fa)), (g20, .inl (T 1, 10, .inr (.inl gr))), (g31, .inl (T 0, 4, .inl fq)), (g32, .inl (T 0, 4, .inl fm)), (g33, .inl (T 1, 160, .inr (.inl fn)))] ∧ 1 ≤ j ∧ j ≤ 12 ∧ le = nI j) ∨ (∃ (z : Int32), rr = some (.int z) ∧ ww = [(o, .inr (8, [.int w0, .ref g1, .ref g2, .ref g3, .ref g4, .int (nI tp), .int w6, .int w7, .int w8, .int w9, .int w10, .int w11, .int w12, .int w13, .int w14, .ref g15, .int w16, .ref g17, .int w18, .int w19, .ref g20, .int w21, .ref g22, .ref g23, .ref g24, .int w25, .int w26, .int w27, .ref g28, .ref g29, .int w30, .ref g31, .ref g32, .ref g33])), (g1, .inl (T 0, 282, .inl fa)), (g20, .inl (T 1, 10, .inr (.inl fr))), (g31, .inl (T 0, 4, .inl fq)), (g32, .inl (T 0, 4, .inl fm)), (g33, .inl (T 1, 160, .inr (.inl fn)))] ∧ ¬ z = 0)
set_option maxHeartbeats 4000000 in
set_option maxRecDepth 100000 in
theorem m_takesRhythm (l : Launch) (D : va_G) (T : Nat → ClassId) (n : Nat) (o : Nat) (r : Nat) (le : Int32) (w0 : Int32) (g1 : Nat) (g2 : Nat) (g3 : Nat) (g4 : Nat) (tp : Nat) (w6 : Int32) (w7 : Int32) (w8 : Int32) (w9 : Int32) (w10 : Int32) (w11 : Int32) (w12 : Int32) (w13 : Int32) (w14 : Int32) (g15 : Nat) (w16 : Int32) (g17 : Nat) (w18 : Int32) (w19 : Int32) (g20 : Nat) (w21 : Int32) (g22 : Nat) (g23 : Nat) (g24 : Nat) (w25 : Int32) (w26 : Int32) (w27 : Int32) (g28 : Nat) (g29 : Nat) (w30 : Int32) (g31 : Nat) (g32 : Nat) (g33 : Nat) (fa : Nat → Int32) (fr : Nat → Int64) (fq : Nat → Int32) (fm : Nat → Int32) (fn : Nat → Int64) (h_a : MI n fa) (h_r : r < 4) : Ct l yX8_takesRhythm cX8_takesRhythm 4 (some .int) 1 0 0 D T [.ref o, .int (nI r), .int le] [(o, .inr (8, [.int w0, .ref g1, .ref g2, .ref g3, .ref g4, .int (nI tp), .int w6, .int w7, .int w8, .int w9, .int w10, .int w11, .int w12, .int w13, .int w14, .ref g15, .int w16, .ref g17, .int w18, .int w19, .ref g20, .int w21, .ref g22, .ref g23, .ref g24, .int w25, .int w26, .int w27, .ref g28, .ref g29, .int w30, .ref g31, .ref g32, .ref g33])), (g1, .inl (T 0, 282, .inl fa)), (g20, .inl (T 1, 10, .inr (.inl fr))), (g31, .inl (T 0, 4, .inl fq)), (g32, .inl (T 0, 4, .inl fm)), (g33, .inl (T 1, 160, .inr (.inl fn)))] (q_m_takesRhythm T n o r le w0 g1 g2 g3 g4 tp w6 w7 w8 w9 w10 w11 w12 w13 w14 g15 w16 g17 w18 w19 g20 w21 g22 g23 g24 w25 w26 w27 g28 g29 w30 g31 g32 g33 fa fr fq fm fn) := by
  refine Ct.of (cc := cX8_takesRhythm) (maxL := 4) (ret := (some .int)) (by decide) (Nat.le_of_ble_eq_true rfl) ?_
  intro p e s m args below meth c A ls hC hnm V hl
  obtain ⟨hx, hb, hr, hml, hown, hts, hlocks⟩ := id hC
  generalize hH : s.heap = H at V ⊢
  clear hH
  have hl : lv_has ls 4 [(0, .ref o), (1, .int (nI r)), (2, .int le)] := hl
  generalize hlo : ([] : List Loc) = locs at V ⊢
  clear hlo
  have ms0 := ms_rf h_a
  have hn10 := h_a.1
  refine lv_aload_n hx hb dX8_takesRhythm_0 rfl (lv_at hl 0 rfl) ?_
  refine g_get hC V (ci := 8) uwX8 0 rfl rfl 31 (by decide) w_943 rfl rfl dX8_takesRhythm_1 ?_
  refine lv_iload_n hx hb dX8_takesRhythm_4 rfl (lv_at hl 1 rfl) ?_
  refine g_iald hC V 3 rfl (vp_in_nI (by omega) (by omega)) (v := (fq r)) (congrArg _ (nI_clamp (by omega))) dX8_takesRhythm_5 ?_
  refine lv_iconst (v := (-1)) hx hb dX8_takesRhythm_6 (by decide +kernel) ?_
  refine lv_icmp_ne (tgt := 13) hx hb dX8_takesRhythm_7 (by decide) (fun c_1 => ?_) (fun c_1 => ?_)
  · skip
    refine lv_aload_n hx hb dX8_takesRhythm_13 rfl (lv_at hl 0 rfl) ?_
    refine g_get hC V (ci := 8) uwX8 0 rfl rfl 32 (by decide) w_944 rfl rfl dX8_takesRhythm_14 ?_
    refine lv_iload_n hx hb dX8_takesRhythm_17 rfl (lv_at hl 1 rfl) ?_
    refine g_iald hC V 4 rfl (vp_in_nI (by omega) (by omega)) (v := (fm r)) (congrArg _ (nI_clamp (by omega))) dX8_takesRhythm_18 ?_
    refine lv_aload_n hx hb dX8_takesRhythm_19 rfl (lv_at hl 0 rfl) ?_
    refine g_get hC V (ci := 8) uwX8 0 rfl rfl 1 (by decide) w_913 rfl rfl dX8_takesRhythm_20 ?_
    refine lv_iconst (v := (nI 0)) hx hb dX8_takesRhythm_23 (by decide +kernel) ?_
    refine g_iald hC V 1 rfl (vp_in_nI (by decide) (by decide)) (v := (nI n)) (by rw [nI_clamp (by decide)]; first | rfl | exact h_a.2.1) dX8_takesRhythm_24 ?_
    refine lv_icmp_eq (tgt := 31) hx hb dX8_takesRhythm_25 (by decide) (fun c_2 => ?_) (fun c_2 => ?_)
    · skip
      refine lv_iload_n hx hb dX8_takesRhythm_31 rfl (lv_at hl 2 rfl) ?_
      refine lv_i2l (v := le.toInt64) hx hb dX8_takesRhythm_32 rfl ?_
      refine lv_lconst (v := (nI 1).toInt64) hx hb dX8_takesRhythm_33 (by decide +kernel) ?_
      refine lv_ldc2 (v := (12)) hx hb hown (hts _ w_1228) dX8_takesRhythm_34 ?_
      refine g_vl (y := (nI 12).toInt64) (by decide +kernel) ?_
      refine g_callSU (nA := 3) hC V hl.1 (m_within l D T le (nI 1) (nI 12)) w_1023 w_1024 w_9 w_1025 (by decide +kernel) rfl ⟨(Nat.le_of_ble_eq_true rfl), (Nat.le_of_ble_eq_true rfl)⟩ [] rfl rfl (Nat.le_of_ble_eq_true rfl) dX8_takesRhythm_37 ⟨(Nat.le_of_ble_eq_true rfl), (Nat.le_of_ble_eq_true rfl)⟩ rfl (fun r w1 H locs hQ V => ?_)
      rcases hQ with ⟨rfl, rfl, f_3, f_4⟩ | ⟨rfl, rfl, f_5⟩
      · have V : gW D T A s [(o, .inr (8, [.int w0, .ref g1, .ref g2, .ref g3, .ref g4, .int (nI tp), .int w6, .int w7, .int w8, .int w9, .int w10, .int w11, .int w12, .int w13, .int w14, .ref g15, .int w16, .ref g17, .int w18, .int w19, .ref g20, .int w21, .ref g22, .ref g23, .ref g24, .int w25, .int w26, .int w27, .ref g28, .ref g29, .int w30, .ref g31, .ref g32, .ref g33])), (g1, .inl (T 0, 282, .inl fa)), (g20, .inl (T 1, 10, .inr (.inl fr))), (g31, .inl (T 0, 4, .inl fq)), (g32, .inl (T 0, 4, .inl fm)), (g33, .inl (T 1, 160, .inr (.inl fn)))] H locs := V _ [] rfl rfl rfl (by decide +kernel) rfl
        show W p l e _ s m args below meth c H locs _ _ _ (F0 m 40 ls [.int (nI 1)])
        obtain ⟨i, hi1, hi2, ei⟩ := g_rng (by first | decide | omega) (by first | decide | omega) f_3 f_4
        rw [ei] at hl
        refine lv_if_ne (tgt := 46) hx hb dX8_takesRhythm_40 (by decide) (fun _ => ?_) (fun c => absurd (show (nI 1) = 0 from c) (by decide +kernel))
        refine lv_iconst (v := (nI 0)) hx hb dX8_takesRhythm_46 (by decide +kernel) ?_
        refine lv_istore_n (lv' := [(3, .int (nI 0)), (0, .ref o), (1, .int (nI r)), (2, .int (nI i))]) hx hb dX8_takesRhythm_47 rfl hl (by decide) rfl (fun ls hl => ?_)
        have L_6 : ∀ (fu : Nat) (k48 : Nat) (gq : Nat → Int64), k48 ≤ n → n - k48 < fu → ∀ (H : Heap) (locs : List Loc) (ls : Array Slot), gW D T A s [(o, .inr (8, [.int w0, .ref g1, .ref g2, .ref g3, .ref g4, .int (nI tp), .int w6, .int w7, .int w8, .int w9, .int w10, .int w11, .int w12, .int w13, .int w14, .ref g15, .int w16, .ref g17, .int w18, .int w19, .ref g20, .int w21, .ref g22, .ref g23, .ref g24, .int w25, .int w26, .int w27, .ref g28, .ref g29, .int w30, .ref g31, .ref g32, .ref g33])), (g1, .inl (T 0, 282, .inl fa)), (g20, .inl (T 1, 10, .inr (.inl gq))), (g31, .inl (T 0, 4, .inl fq)), (g32, .inl (T 0, 4, .inl fm)), (g33, .inl (T 1, 160, .inr (.inl fn)))] H locs → lv_has ls 4 [(3, .int (nI k48)), (0, .ref o), (1, .int (nI r)), (2, .int (nI i))] → W p l e (rmD 1 0 0) s m args below meth c H locs 0 0 (MQ below (gQ D A (q_m_takesRhythm T n o r le w0 g1 g2 g3 g4 tp w6 w7 w8 w9 w10 w11 w12 w13 w14 g15 w16 g17 w18 w19 g20 w21 g22 g23 g24 w25 w26 w27 g28 g29 w30 g31 g32 g33 fa fr fq fm fn)) args s 0 0 A) (F0 m 48 ls []) := by
          intro fu_48
          induction fu_48 with
          | zero => intro k48 gq hk48 hmu; exact absurd hmu (Nat.not_lt_zero _)
          | succ fu_48 ih_48 =>
            intro k48 gq hk48 hmu_48 H locs ls V hl
            refine lv_iload_n hx hb dX8_takesRhythm_48 rfl (lv_at hl 0 rfl) ?_
            refine lv_aload_n hx hb dX8_takesRhythm_49 rfl (lv_at hl 1 rfl) ?_
            refine g_get hC V (ci := 8) uwX8 0 rfl rfl 1 (by decide) w_913 rfl rfl dX8_takesRhythm_50 ?_
            refine lv_iconst (v := (nI 0)) hx hb dX8_takesRhythm_53 (by decide +kernel) ?_
            refine g_iald hC V 1 rfl (vp_in_nI (by decide) (by decide)) (v := (nI n)) (by rw [nI_clamp (by decide)]; first | rfl | exact h_a.2.1) dX8_takesRhythm_54 ?_
            refine lv_icmp_ge (tgt := 81) hx hb dX8_takesRhythm_55 (by decide) (fun c_7 => ?_) (fun c_7 => ?_)
            · skip
              have c_7 := b_le (by omega) (by omega) c_7
              refine lv_iconst (v := (nI 0)) hx hb dX8_takesRhythm_81 (by decide +kernel) ?_
              exact g_iret (Qr := (q_m_takesRhythm T n o r le w0 g1 g2 g3 g4 tp w6 w7 w8 w9 w10 w11 w12 w13 w14 g15 w16 g17 w18 w19 g20 w21 g22 g23 g24 w25 w26 w27 g28 g29 w30 g31 g32 g33 fa fr fq fm fn)) hC V ⟨(Nat.le_of_ble_eq_true rfl), (Nat.le_of_ble_eq_true rfl)⟩ (.inl ⟨i, gq, rfl, rfl, (by assumption), (by assumption), (by assumption)⟩) dX8_takesRhythm_82
            · skip
              have c_7 := b_nle (by omega) (by omega) c_7
              refine lv_aload_n hx hb dX8_takesRhythm_58 rfl (lv_at hl 1 rfl) ?_
              refine g_get hC V (ci := 8) uwX8 0 rfl rfl 20 (by decide) w_932 rfl rfl dX8_takesRhythm_59 ?_
              refine lv_iload_n hx hb dX8_takesRhythm_62 rfl (lv_at hl 0 rfl) ?_
              refine lv_aload_n hx hb dX8_takesRhythm_63 rfl (lv_at hl 1 rfl) ?_
              refine g_get hC V (ci := 8) uwX8 0 rfl rfl 33 (by decide) w_945 rfl rfl dX8_takesRhythm_64 ?_
              refine lv_bipush (v := (nI 40)) hx hb dX8_takesRhythm_67 (by decide +kernel) ?_
              refine lv_iload_n hx hb dX8_takesRhythm_69 rfl (lv_at hl 2 rfl) ?_
              refine lv_imul hx hb dX8_takesRhythm_70 ?_
              refine g_vi (y := (nI (40 * r))) (pk_mul _ _) ?_
              refine lv_iload_n hx hb dX8_takesRhythm_71 rfl (lv_at hl 0 rfl) ?_
              refine lv_iadd hx hb dX8_takesRhythm_72 ?_
              refine g_vi (y := (nI ((40 * r) + k48))) (nI_add _ _) ?_
              refine g_lald hC V 5 rfl (vp_in_nI (by omega) (by omega)) (v := (fn ((40 * r) + k48))) (congrArg _ (nI_clamp (by omega))) dX8_takesRhythm_73 ?_
              refine g_last hC V 2 rfl (vp_in_nI (by omega) (by omega)) (f' := (vp_updL gq k48 (fn ((40 * r) + k48)))) (by rw [nI_clamp (by omega)]) (ws' := [(o, .inr (8, [.int w0, .ref g1, .ref g2, .ref g3, .ref g4, .int (nI tp), .int w6, .int w7, .int w8, .int w9, .int w10, .int w11, .int w12, .int w13, .int w14, .ref g15, .int w16, .ref g17, .int w18, .int w19, .ref g20, .int w21, .ref g22, .ref g23, .ref g24, .int w25, .int w26, .int w27, .ref g28, .ref g29, .int w30, .ref g31, .ref g32, .ref g33])), (g1, .inl (T 0, 282, .inl fa)), (g20, .inl (T 1, 10, .inr (.inl (vp_updL gq k48 (fn ((40 * r) + k48)))))), (g31, .inl (T 0, 4, .inl fq)), (g32, .inl (T 0, 4, .inl fm)), (g33, .inl (T 1, 160, .inr (.inl fn)))]) rfl dX8_takesRhythm_74 (fun H locs V => ?_)
              refine lv_iinc (v := (nI (k48 + 1))) (lv' := [(3, .int (nI (k48 + 1))), (0, .ref o), (1, .int (nI r)), (2, .int (nI i))]) hx hb dX8_takesRhythm_75 hl (k := 0) rfl (nI_1 _) (by decide) rfl (fun ls hl => ?_)
              refine lv_goto (tgt := 48) hx hb dX8_takesRhythm_78 (by decide) ?_
              exact ih_48 (k48 + 1) (vp_updL gq k48 (fn ((40 * r) + k48))) (by omega) (by omega) _ _ _ V (lv_sub hl [0, 1, 2, 3] rfl)
        exact L_6 _ 0 fr (by omega) (Nat.lt_succ_self _) _ _ _ V (lv_sub hl [0, 1, 2, 3] rfl)
      · have V : gW D T A s [(o, .inr (8, [.int w0, .ref g1, .ref g2, .ref g3, .ref g4, .int (nI tp), .int w6, .int w7, .int w8, .int w9, .int w10, .int w11, .int w12, .int w13, .int w14, .ref g15, .int w16, .ref g17, .int w18, .int w19, .ref g20, .int w21, .ref g22, .ref g23, .ref g24, .int w25, .int w26, .int w27, .ref g28, .ref g29, .int w30, .ref g31, .ref g32, .ref g33])), (g1, .inl (T 0, 282, .inl fa)), (g20, .inl (T 1, 10, .inr (.inl fr))), (g31, .inl (T 0, 4, .inl fq)), (g32, .inl (T 0, 4, .inl fm)), (g33, .inl (T 1, 160, .inr (.inl fn)))] H locs := V _ [] rfl rfl rfl (by decide +kernel) rfl
        show W p l e _ s m args below meth c H locs _ _ _ (F0 m 40 ls [.int (nI 0)])
        refine lv_if_ne (tgt := 46) hx hb dX8_takesRhythm_40 (by decide) (fun c => absurd (show (nI 0) = 0 by decide +kernel) c) (fun _ => ?_)
        refine lv_bipush (v := (-3)) hx hb dX8_takesRhythm_43 (by decide +kernel) ?_
        exact g_iret (Qr := (q_m_takesRhythm T n o r le w0 g1 g2 g3 g4 tp w6 w7 w8 w9 w10 w11 w12 w13 w14 g15 w16 g17 w18 w19 g20 w21 g22 g23 g24 w25 w26 w27 g28 g29 w30 g31 g32 g33 fa fr fq fm fn)) hC V ⟨(Nat.le_of_ble_eq_true rfl), (Nat.le_of_ble_eq_true rfl)⟩ (.inr ⟨(-3), rfl, rfl, (by decide +kernel)⟩) dX8_takesRhythm_45
    · skip
      refine lv_bipush (v := (-7)) hx hb dX8_takesRhythm_28 (by decide +kernel) ?_
      exact g_iret (Qr := (q_m_takesRhythm T n o r le w0 g1 g2 g3 g4 tp w6 w7 w8 w9 w10 w11 w12 w13 w14 g15 w16 g17 w18 w19 g20 w21 g22 g23 g24 w25 w26 w27 g28 g29 w30 g31 g32 g33 fa fr fq fm fn)) hC V ⟨(Nat.le_of_ble_eq_true rfl), (Nat.le_of_ble_eq_true rfl)⟩ (.inr ⟨(-7), rfl, rfl, (by decide +kernel)⟩) dX8_takesRhythm_30
  · skip
    refine lv_bipush (v := (-6)) hx hb dX8_takesRhythm_10 (by decide +kernel) ?_
    exact g_iret (Qr := (q_m_takesRhythm T n o r le w0 g1 g2 g3 g4 tp w6 w7 w8 w9 w10 w11 w12 w13 w14 g15 w16 g17 w18 w19 g20 w21 g22 g23 g24 w25 w26 w27 g28 g29 w30 g31 g32 g33 fa fr fq fm fn)) hC V ⟨(Nat.le_of_ble_eq_true rfl), (Nat.le_of_ble_eq_true rfl)⟩ (.inr ⟨(-6), rfl, rfl, (by decide +kernel)⟩) dX8_takesRhythm_12

def q_m_holds (T : Nat → ClassId) (n : Nat) (o : Nat) (row : Int32) (le : Int32) (wh : Int32) (w0 : Int32) (g1 : Nat) (g2 : Nat) (g3 : Nat) (g4 : Nat) (tp : Nat) (w6 : Int32) (w7 : Int32) (w8 : Int32) (w9 : Int32) (w10 : Int32) (w11 : Int32) (w12 : Int32) (w13 : Int32) (w14 : Int32) (g15 : Nat) (w16 : Int32) (g17 : Nat) (w18 : Int32) (w19 : Int32) (g20 : Nat) (w21 : Int32) (g22 : Nat) (g23 : Nat) (g24 : Nat) (w25 : Int32) (w26 : Int32) (w27 : Int32) (g28 : Nat) (g29 : Nat) (w30 : Int32) (g31 : Nat) (g32 : Nat) (g33 : Nat) (fa : Nat → Int32) (fh : Nat → Int32) (fk : Nat → Int32) (fr : Nat → Int64) (fq : Nat → Int32) (fm : Nat → Int32) (fn : Nat → Int64) : Option Value → va_W → Prop := fun rr ww => (∃ (z : Int32) (wq : Int32) (gh : Nat → Int32) (gk : Nat → Int32) (gr : Nat → Int64), rr = some (.int z) ∧ ww = [(o, .inr (8, [.int (nI 0), .ref g1, .ref g2, .ref g3, .ref g4, .int (nI tp), .int w6, .int w7, .int w8, .int w9, .int w10, .int w11, .int w12, .int w13, .int w14, .ref g15, .int w16, .ref g17, .int w18, .int w19, .ref g20, .int wq, .ref g22, .ref g23, .ref g24, .int w25, .int w26, .int w27, .ref g28, .ref g29, .int w30, .ref g31, .ref g32, .ref g33])), (g1, .inl (T 0, 282, .inl fa)), (g15, .inl (T 0, 10, .inl gh)), (g17, .inl (T 0, 94, .inl gk)), (g20, .inl (T 1, 10, .inr (.inl gr))), (g31, .inl (T 0, 4, .inl fq)), (g32, .inl (T 0, 4, .inl fm)), (g33, .inl (T 1, 160, .inr (.inl fn)))])
set_option maxHeartbeats 4000000 in
set_option maxRecDepth 100000 in
theorem m_holds (l : Launch) (D : va_G) (T : Nat → ClassId) (n : Nat) (o : Nat) (row : Int32) (le : Int32) (wh : Int32) (w0 : Int32) (g1 : Nat) (g2 : Nat) (g3 : Nat) (g4 : Nat) (tp : Nat) (w6 : Int32) (w7 : Int32) (w8 : Int32) (w9 : Int32) (w10 : Int32) (w11 : Int32) (w12 : Int32) (w13 : Int32) (w14 : Int32) (g15 : Nat) (w16 : Int32) (g17 : Nat) (w18 : Int32) (w19 : Int32) (g20 : Nat) (w21 : Int32) (g22 : Nat) (g23 : Nat) (g24 : Nat) (w25 : Int32) (w26 : Int32) (w27 : Int32) (g28 : Nat) (g29 : Nat) (w30 : Int32) (g31 : Nat) (g32 : Nat) (g33 : Nat) (fa : Nat → Int32) (fh : Nat → Int32) (fk : Nat → Int32) (fr : Nat → Int64) (fq : Nat → Int32) (fm : Nat → Int32) (fn : Nat → Int64) (h_a : MI n fa) : Ct l yX8_holds cX8_holds 6 (some .int) 4 0 0 D T [.ref o, .int row, .int le, .int wh] [(o, .inr (8, [.int w0, .ref g1, .ref g2, .ref g3, .ref g4, .int (nI tp), .int w6, .int w7, .int w8, .int w9, .int w10, .int w11, .int w12, .int w13, .int w14, .ref g15, .int w16, .ref g17, .int w18, .int w19, .ref g20, .int w21, .ref g22, .ref g23, .ref g24, .int w25, .int w26, .int w27, .ref g28, .ref g29, .int w30, .ref g31, .ref g32, .ref g33])), (g1, .inl (T 0, 282, .inl fa)), (g15, .inl (T 0, 10, .inl fh)), (g17, .inl (T 0, 94, .inl fk)), (g20, .inl (T 1, 10, .inr (.inl fr))), (g31, .inl (T 0, 4, .inl fq)), (g32, .inl (T 0, 4, .inl fm)), (g33, .inl (T 1, 160, .inr (.inl fn)))] (q_m_holds T n o row le wh w0 g1 g2 g3 g4 tp w6 w7 w8 w9 w10 w11 w12 w13 w14 g15 w16 g17 w18 w19 g20 w21 g22 g23 g24 w25 w26 w27 g28 g29 w30 g31 g32 g33 fa fh fk fr fq fm fn) := by
  refine Ct.of (cc := cX8_holds) (maxL := 6) (ret := (some .int)) (by decide) (Nat.le_of_ble_eq_true rfl) ?_
  intro p e s m args below meth c A ls hC hnm V hl
  obtain ⟨hx, hb, hr, hml, hown, hts, hlocks⟩ := id hC
  generalize hH : s.heap = H at V ⊢
  clear hH
  have hl : lv_has ls 6 [(0, .ref o), (1, .int row), (2, .int le), (3, .int wh)] := hl
  generalize hlo : ([] : List Loc) = locs at V ⊢
  clear hlo
  have ms0 := ms_rf h_a
  have hn10 := h_a.1
  refine lv_aload_n hx hb dX8_holds_0 rfl (lv_at hl 0 rfl) ?_
  refine lv_iconst (v := (nI 0)) hx hb dX8_holds_1 (by decide +kernel) ?_
  refine g_put hC V (ci := 8) uwX8 tyX8 tyX8_ok nmX8 0 rfl rfl 0 (by decide) w_912 rfl rfl rfl rfl (Nat.le_of_ble_eq_true rfl) (ws' := [(o, .inr (8, [.int (nI 0), .ref g1, .ref g2, .ref g3, .ref g4, .int (nI tp), .int w6, .int w7, .int w8, .int w9, .int w10, .int w11, .int w12, .int w13, .int w14, .ref g15, .int w16, .ref g17, .int w18, .int w19, .ref g20, .int w21, .ref g22, .ref g23, .ref g24, .int w25, .int w26, .int w27, .ref g28, .ref g29, .int w30, .ref g31, .ref g32, .ref g33])), (g1, .inl (T 0, 282, .inl fa)), (g15, .inl (T 0, 10, .inl fh)), (g17, .inl (T 0, 94, .inl fk)), (g20, .inl (T 1, 10, .inr (.inl fr))), (g31, .inl (T 0, 4, .inl fq)), (g32, .inl (T 0, 4, .inl fm)), (g33, .inl (T 1, 160, .inr (.inl fn)))]) rfl dX8_holds_2 (fun H locs V => ?_)
  refine lv_iload_n hx hb dX8_holds_5 rfl (lv_at hl 1 rfl) ?_
  refine lv_i2l (v := row.toInt64) hx hb dX8_holds_6 rfl ?_
  refine lv_lconst (v := (nI 0).toInt64) hx hb dX8_holds_7 (by decide +kernel) ?_
  refine lv_ldc2 (v := (3)) hx hb hown (hts _ w_1144) dX8_holds_8 ?_
  refine g_vl (y := (nI 3).toInt64) (by decide +kernel) ?_
  refine g_callSU (nA := 3) hC V hl.1 (m_within l D T row (nI 0) (nI 3)) w_1023 w_1024 w_9 w_1025 (by decide +kernel) rfl ⟨(Nat.le_of_ble_eq_true rfl), (Nat.le_of_ble_eq_true rfl)⟩ [] rfl rfl (Nat.le_of_ble_eq_true rfl) dX8_holds_11 ⟨(Nat.le_of_ble_eq_true rfl), (Nat.le_of_ble_eq_true rfl)⟩ rfl (fun r w1 H locs hQ V => ?_)
  rcases hQ with ⟨rfl, rfl, f_1, f_2⟩ | ⟨rfl, rfl, f_3⟩
  · have V : gW D T A s [(o, .inr (8, [.int (nI 0), .ref g1, .ref g2, .ref g3, .ref g4, .int (nI tp), .int w6, .int w7, .int w8, .int w9, .int w10, .int w11, .int w12, .int w13, .int w14, .ref g15, .int w16, .ref g17, .int w18, .int w19, .ref g20, .int w21, .ref g22, .ref g23, .ref g24, .int w25, .int w26, .int w27, .ref g28, .ref g29, .int w30, .ref g31, .ref g32, .ref g33])), (g1, .inl (T 0, 282, .inl fa)), (g15, .inl (T 0, 10, .inl fh)), (g17, .inl (T 0, 94, .inl fk)), (g20, .inl (T 1, 10, .inr (.inl fr))), (g31, .inl (T 0, 4, .inl fq)), (g32, .inl (T 0, 4, .inl fm)), (g33, .inl (T 1, 160, .inr (.inl fn)))] H locs := V _ [] rfl rfl rfl (by decide +kernel) rfl
    show W p l e _ s m args below meth c H locs _ _ _ (F0 m 14 ls [.int (nI 1)])
    obtain ⟨r, hr1, hr2, er⟩ := g_rng (by decide) (by decide) f_1 f_2
    rw [er] at hl
    refine lv_if_eq (tgt := 27) hx hb dX8_holds_14 (by decide) (fun c => absurd (show (nI 1) = 0 from c) (by decide +kernel)) (fun _ => ?_)
    refine lv_iload_n hx hb dX8_holds_17 rfl (lv_at hl 3 rfl) ?_
    refine lv_i2l (v := wh.toInt64) hx hb dX8_holds_18 rfl ?_
    refine lv_lconst (v := (nI 0).toInt64) hx hb dX8_holds_19 (by decide +kernel) ?_
    refine lv_lconst (v := (nI 1).toInt64) hx hb dX8_holds_20 (by decide +kernel) ?_
    refine g_callSU (nA := 3) hC V hl.1 (m_within l D T wh (nI 0) (nI 1)) w_1023 w_1024 w_9 w_1025 (by decide +kernel) rfl ⟨(Nat.le_of_ble_eq_true rfl), (Nat.le_of_ble_eq_true rfl)⟩ [] rfl rfl (Nat.le_of_ble_eq_true rfl) dX8_holds_21 ⟨(Nat.le_of_ble_eq_true rfl), (Nat.le_of_ble_eq_true rfl)⟩ rfl (fun r w1 H locs hQ V => ?_)
    rcases hQ with ⟨rfl, rfl, f_4, f_5⟩ | ⟨rfl, rfl, f_6⟩
    · have V : gW D T A s [(o, .inr (8, [.int (nI 0), .ref g1, .ref g2, .ref g3, .ref g4, .int (nI tp), .int w6, .int w7, .int w8, .int w9, .int w10, .int w11, .int w12, .int w13, .int w14, .ref g15, .int w16, .ref g17, .int w18, .int w19, .ref g20, .int w21, .ref g22, .ref g23, .ref g24, .int w25, .int w26, .int w27, .ref g28, .ref g29, .int w30, .ref g31, .ref g32, .ref g33])), (g1, .inl (T 0, 282, .inl fa)), (g15, .inl (T 0, 10, .inl fh)), (g17, .inl (T 0, 94, .inl fk)), (g20, .inl (T 1, 10, .inr (.inl fr))), (g31, .inl (T 0, 4, .inl fq)), (g32, .inl (T 0, 4, .inl fm)), (g33, .inl (T 1, 160, .inr (.inl fn)))] H locs := V _ [] rfl rfl rfl (by decide +kernel) rfl
      show W p l e _ s m args below meth c H locs _ _ _ (F0 m 24 ls [.int (nI 1)])
      refine lv_if_ne (tgt := 30) hx hb dX8_holds_24 (by decide) (fun _ => ?_) (fun c => absurd (show (nI 1) = 0 from c) (by decide +kernel))
      refine lv_aload_n hx hb dX8_holds_30 rfl (lv_at hl 0 rfl) ?_
      refine lv_iload_n hx hb dX8_holds_31 rfl (lv_at hl 1 rfl) ?_
      refine lv_iload_n hx hb dX8_holds_32 rfl (lv_at hl 2 rfl) ?_
      refine g_callVU (nA := 2) hC V hl.1 (m_takesRhythm l D T n o r le (nI 0) g1 g2 g3 g4 tp w6 w7 w8 w9 w10 w11 w12 w13 w14 g15 w16 g17 w18 w19 g20 w21 g22 g23 g24 w25 w26 w27 g28 g29 w30 g31 g32 g33 fa fr fq fm fn h_a (by first | assumption | omega)) w_1224 w_1226 w_s63 w_9 w_1227 (by decide +kernel) rfl ⟨(Nat.le_of_ble_eq_true rfl), (Nat.le_of_ble_eq_true rfl)⟩ 0 (ci := 8) rfl rfl [0, 1, 4, 5, 6, 7] rfl rfl (Nat.le_of_ble_eq_true rfl) dX8_holds_33 ⟨(Nat.le_of_ble_eq_true rfl), (Nat.le_of_ble_eq_true rfl)⟩ rfl (fun r w1 H locs hQ V => ?_)
      rcases hQ with ⟨j_7, gr_8, rfl, rfl, f_9, f_10, f_11⟩ | ⟨z_12, rfl, rfl, f_13⟩
      · have V : gW D T A s [(o, .inr (8, [.int (nI 0), .ref g1, .ref g2, .ref g3, .ref g4, .int (nI tp), .int w6, .int w7, .int w8, .int w9, .int w10, .int w11, .int w12, .int w13, .int w14, .ref g15, .int w16, .ref g17, .int w18, .int w19, .ref g20, .int w21, .ref g22, .ref g23, .ref g24, .int w25, .int w26, .int w27, .ref g28, .ref g29, .int w30, .ref g31, .ref g32, .ref g33])), (g1, .inl (T 0, 282, .inl fa)), (g15, .inl (T 0, 10, .inl fh)), (g17, .inl (T 0, 94, .inl fk)), (g20, .inl (T 1, 10, .inr (.inl gr_8))), (g31, .inl (T 0, 4, .inl fq)), (g32, .inl (T 0, 4, .inl fm)), (g33, .inl (T 1, 160, .inr (.inl fn)))] H locs := V _ [0, 0, 2, 0, 0, 0] rfl rfl rfl (by decide +kernel) rfl
        show W p l e _ s m args below meth c H locs _ _ _ (F0 m 36 ls [.int (nI 0)])
        rw [f_11] at hl
        refine lv_istore (lv' := [(4, .int (nI 0)), (0, .ref o), (1, .int (nI r)), (2, .int (nI j_7)), (3, .int wh)]) hx hb dX8_holds_36 hl (by decide) rfl (fun ls hl => ?_)
        refine lv_iload hx hb dX8_holds_38 (lv_at hl 0 rfl) ?_
        refine lv_if_eq (tgt := 46) hx hb dX8_holds_40 (by decide) (fun _ => ?_) (fun c => absurd (show (nI 0) = 0 by decide +kernel) c)
        refine lv_aload_n hx hb dX8_holds_46 rfl (lv_at hl 1 rfl) ?_
        refine lv_iload_n hx hb dX8_holds_47 rfl (lv_at hl 3 rfl) ?_
        refine g_callVU (nA := 1) hC V hl.1 (m_holdsBy l D T n o j_7 (nI 0) g1 g2 g3 g4 tp w6 w7 w8 w9 w10 w11 w12 w13 w14 g15 w16 g17 w18 w19 g20 w21 g22 g23 g24 w25 w26 w27 g28 g29 w30 g31 g32 g33 fa fh fk gr_8 h_a ⟨by omega, by omega⟩) w_1229 w_1231 w_s64 w_9 w_1232 (by decide +kernel) rfl ⟨(Nat.le_of_ble_eq_true rfl), (Nat.le_of_ble_eq_true rfl)⟩ 0 (ci := 8) rfl rfl [0, 1, 2, 3, 4] rfl rfl (Nat.le_of_ble_eq_true rfl) dX8_holds_48 ⟨(Nat.le_of_ble_eq_true rfl), (Nat.le_of_ble_eq_true rfl)⟩ rfl (fun r w1 H locs hQ V => ?_)
        obtain ⟨z_14, wq_15, gh_16, gk_17, rfl, rfl⟩ := hQ
        have V : gW D T A s [(o, .inr (8, [.int (nI 0), .ref g1, .ref g2, .ref g3, .ref g4, .int (nI tp), .int w6, .int w7, .int w8, .int w9, .int w10, .int w11, .int w12, .int w13, .int w14, .ref g15, .int w16, .ref g17, .int w18, .int w19, .ref g20, .int wq_15, .ref g22, .ref g23, .ref g24, .int w25, .int w26, .int w27, .ref g28, .ref g29, .int w30, .ref g31, .ref g32, .ref g33])), (g1, .inl (T 0, 282, .inl fa)), (g15, .inl (T 0, 10, .inl gh_16)), (g17, .inl (T 0, 94, .inl gk_17)), (g20, .inl (T 1, 10, .inr (.inl gr_8))), (g31, .inl (T 0, 4, .inl fq)), (g32, .inl (T 0, 4, .inl fm)), (g33, .inl (T 1, 160, .inr (.inl fn)))] H locs := V _ [0, 0, 0, 0, 0] rfl rfl rfl (by decide +kernel) rfl
        show W p l e _ s m args below meth c H locs _ _ _ (F0 m 51 ls [.int z_14])
        refine lv_istore (lv' := [(5, .int z_14), (4, .int (nI 0)), (0, .ref o), (1, .int (nI r)), (2, .int (nI j_7)), (3, .int wh)]) hx hb dX8_holds_51 hl (by decide) rfl (fun ls hl => ?_)
        refine lv_iload_n hx hb dX8_holds_53 rfl (lv_at hl 5 rfl) ?_
        refine lv_if_ne (tgt := 62) hx hb dX8_holds_54 (by decide) (fun c_18 => ?_) (fun c_18 => ?_)
        · skip
          refine lv_aload_n hx hb dX8_holds_62 rfl (lv_at hl 2 rfl) ?_
          refine g_get hC V (ci := 8) uwX8 0 rfl rfl 21 (by decide) w_933 rfl rfl dX8_holds_63 ?_
          exact g_iret (Qr := (q_m_holds T n o row le wh w0 g1 g2 g3 g4 tp w6 w7 w8 w9 w10 w11 w12 w13 w14 g15 w16 g17 w18 w19 g20 w21 g22 g23 g24 w25 w26 w27 g28 g29 w30 g31 g32 g33 fa fh fk fr fq fm fn)) hC V ⟨(Nat.le_of_ble_eq_true rfl), (Nat.le_of_ble_eq_true rfl)⟩ ⟨wq_15, wq_15, gh_16, gk_17, gr_8, rfl, rfl⟩ dX8_holds_66
        · skip
          refine lv_iload hx hb dX8_holds_57 (lv_at hl 0 rfl) ?_
          refine lv_goto (tgt := 66) hx hb dX8_holds_59 (by decide) ?_
          exact g_iret (Qr := (q_m_holds T n o row le wh w0 g1 g2 g3 g4 tp w6 w7 w8 w9 w10 w11 w12 w13 w14 g15 w16 g17 w18 w19 g20 w21 g22 g23 g24 w25 w26 w27 g28 g29 w30 g31 g32 g33 fa fh fk fr fq fm fn)) hC V ⟨(Nat.le_of_ble_eq_true rfl), (Nat.le_of_ble_eq_true rfl)⟩ ⟨z_14, wq_15, gh_16, gk_17, gr_8, rfl, rfl⟩ dX8_holds_66
      · have V : gW D T A s [(o, .inr (8, [.int (nI 0), .ref g1, .ref g2, .ref g3, .ref g4, .int (nI tp), .int w6, .int w7, .int w8, .int w9, .int w10, .int w11, .int w12, .int w13, .int w14, .ref g15, .int w16, .ref g17, .int w18, .int w19, .ref g20, .int w21, .ref g22, .ref g23, .ref g24, .int w25, .int w26, .int w27, .ref g28, .ref g29, .int w30, .ref g31, .ref g32, .ref g33])), (g1, .inl (T 0, 282, .inl fa)), (g15, .inl (T 0, 10, .inl fh)), (g17, .inl (T 0, 94, .inl fk)), (g20, .inl (T 1, 10, .inr (.inl fr))), (g31, .inl (T 0, 4, .inl fq)), (g32, .inl (T 0, 4, .inl fm)), (g33, .inl (T 1, 160, .inr (.inl fn)))] H locs := V _ [0, 0, 2, 0, 0, 0] rfl rfl rfl (by decide +kernel) rfl
        show W p l e _ s m args below meth c H locs _ _ _ (F0 m 36 ls [.int z_12])
        refine lv_istore (lv' := [(4, .int z_12), (0, .ref o), (1, .int (nI r)), (2, .int le), (3, .int wh)]) hx hb dX8_holds_36 hl (by decide) rfl (fun ls hl => ?_)
        refine lv_iload hx hb dX8_holds_38 (lv_at hl 0 rfl) ?_
        refine lv_if_eq (tgt := 46) hx hb dX8_holds_40 (by decide) (fun c_19 => ?_) (fun c_19 => ?_)
        · skip
          exact (absurd c_19 (by assumption) : False).elim
        · skip
          refine lv_iload hx hb dX8_holds_43 (lv_at hl 0 rfl) ?_
          exact g_iret (Qr := (q_m_holds T n o row le wh w0 g1 g2 g3 g4 tp w6 w7 w8 w9 w10 w11 w12 w13 w14 g15 w16 g17 w18 w19 g20 w21 g22 g23 g24 w25 w26 w27 g28 g29 w30 g31 g32 g33 fa fh fk fr fq fm fn)) hC V ⟨(Nat.le_of_ble_eq_true rfl), (Nat.le_of_ble_eq_true rfl)⟩ ⟨z_12, w21, fh, fk, fr, rfl, rfl⟩ dX8_holds_45
    · have V : gW D T A s [(o, .inr (8, [.int (nI 0), .ref g1, .ref g2, .ref g3, .ref g4, .int (nI tp), .int w6, .int w7, .int w8, .int w9, .int w10, .int w11, .int w12, .int w13, .int w14, .ref g15, .int w16, .ref g17, .int w18, .int w19, .ref g20, .int w21, .ref g22, .ref g23, .ref g24, .int w25, .int w26, .int w27, .ref g28, .ref g29, .int w30, .ref g31, .ref g32, .ref g33])), (g1, .inl (T 0, 282, .inl fa)), (g15, .inl (T 0, 10, .inl fh)), (g17, .inl (T 0, 94, .inl fk)), (g20, .inl (T 1, 10, .inr (.inl fr))), (g31, .inl (T 0, 4, .inl fq)), (g32, .inl (T 0, 4, .inl fm)), (g33, .inl (T 1, 160, .inr (.inl fn)))] H locs := V _ [] rfl rfl rfl (by decide +kernel) rfl
      show W p l e _ s m args below meth c H locs _ _ _ (F0 m 24 ls [.int (nI 0)])
      refine lv_if_ne (tgt := 30) hx hb dX8_holds_24 (by decide) (fun c => absurd (show (nI 0) = 0 by decide +kernel) c) (fun _ => ?_)
      refine lv_bipush (v := (-2)) hx hb dX8_holds_27 (by decide +kernel) ?_
      exact g_iret (Qr := (q_m_holds T n o row le wh w0 g1 g2 g3 g4 tp w6 w7 w8 w9 w10 w11 w12 w13 w14 g15 w16 g17 w18 w19 g20 w21 g22 g23 g24 w25 w26 w27 g28 g29 w30 g31 g32 g33 fa fh fk fr fq fm fn)) hC V ⟨(Nat.le_of_ble_eq_true rfl), (Nat.le_of_ble_eq_true rfl)⟩ ⟨(-2), w21, fh, fk, fr, rfl, rfl⟩ dX8_holds_29
  · have V : gW D T A s [(o, .inr (8, [.int (nI 0), .ref g1, .ref g2, .ref g3, .ref g4, .int (nI tp), .int w6, .int w7, .int w8, .int w9, .int w10, .int w11, .int w12, .int w13, .int w14, .ref g15, .int w16, .ref g17, .int w18, .int w19, .ref g20, .int w21, .ref g22, .ref g23, .ref g24, .int w25, .int w26, .int w27, .ref g28, .ref g29, .int w30, .ref g31, .ref g32, .ref g33])), (g1, .inl (T 0, 282, .inl fa)), (g15, .inl (T 0, 10, .inl fh)), (g17, .inl (T 0, 94, .inl fk)), (g20, .inl (T 1, 10, .inr (.inl fr))), (g31, .inl (T 0, 4, .inl fq)), (g32, .inl (T 0, 4, .inl fm)), (g33, .inl (T 1, 160, .inr (.inl fn)))] H locs := V _ [] rfl rfl rfl (by decide +kernel) rfl
    show W p l e _ s m args below meth c H locs _ _ _ (F0 m 14 ls [.int (nI 0)])
    refine lv_if_eq (tgt := 27) hx hb dX8_holds_14 (by decide) (fun _ => ?_) (fun c => absurd (show (nI 0) = 0 by decide +kernel) c)
    refine lv_bipush (v := (-2)) hx hb dX8_holds_27 (by decide +kernel) ?_
    exact g_iret (Qr := (q_m_holds T n o row le wh w0 g1 g2 g3 g4 tp w6 w7 w8 w9 w10 w11 w12 w13 w14 g15 w16 g17 w18 w19 g20 w21 g22 g23 g24 w25 w26 w27 g28 g29 w30 g31 g32 g33 fa fh fk fr fq fm fn)) hC V ⟨(Nat.le_of_ble_eq_true rfl), (Nat.le_of_ble_eq_true rfl)⟩ ⟨(-2), w21, fh, fk, fr, rfl, rfl⟩ dX8_holds_29

def q_m_even (T : Nat → ClassId) (n : Nat) (o : Nat) (row : Int32) (le : Int32) (w0 : Int32) (g1 : Nat) (g2 : Nat) (g3 : Nat) (g4 : Nat) (tp : Nat) (w6 : Int32) (w7 : Int32) (w8 : Int32) (w9 : Int32) (w10 : Int32) (w11 : Int32) (w12 : Int32) (w13 : Int32) (w14 : Int32) (g15 : Nat) (w16 : Int32) (g17 : Nat) (w18 : Int32) (w19 : Int32) (g20 : Nat) (w21 : Int32) (g22 : Nat) (g23 : Nat) (g24 : Nat) (w25 : Int32) (w26 : Int32) (w27 : Int32) (g28 : Nat) (g29 : Nat) (w30 : Int32) (g31 : Nat) (g32 : Nat) (g33 : Nat) (fa : Nat → Int32) (fr : Nat → Int64) (fq : Nat → Int32) (fm : Nat → Int32) (fn : Nat → Int64) : Option Value → va_W → Prop := fun rr ww => (∃ (z : Int32) (gr : Nat → Int64), rr = some (.int z) ∧ ww = [(o, .inr (8, [.int (nI 0), .ref g1, .ref g2, .ref g3, .ref g4, .int (nI tp), .int w6, .int w7, .int w8, .int w9, .int w10, .int w11, .int w12, .int w13, .int w14, .ref g15, .int w16, .ref g17, .int w18, .int w19, .ref g20, .int w21, .ref g22, .ref g23, .ref g24, .int w25, .int w26, .int w27, .ref g28, .ref g29, .int w30, .ref g31, .ref g32, .ref g33])), (g1, .inl (T 0, 282, .inl fa)), (g20, .inl (T 1, 10, .inr (.inl gr))), (g31, .inl (T 0, 4, .inl fq)), (g32, .inl (T 0, 4, .inl fm)), (g33, .inl (T 1, 160, .inr (.inl fn)))])
set_option maxHeartbeats 4000000 in
set_option maxRecDepth 100000 in
theorem m_even (l : Launch) (D : va_G) (T : Nat → ClassId) (n : Nat) (o : Nat) (row : Int32) (le : Int32) (w0 : Int32) (g1 : Nat) (g2 : Nat) (g3 : Nat) (g4 : Nat) (tp : Nat) (w6 : Int32) (w7 : Int32) (w8 : Int32) (w9 : Int32) (w10 : Int32) (w11 : Int32) (w12 : Int32) (w13 : Int32) (w14 : Int32) (g15 : Nat) (w16 : Int32) (g17 : Nat) (w18 : Int32) (w19 : Int32) (g20 : Nat) (w21 : Int32) (g22 : Nat) (g23 : Nat) (g24 : Nat) (w25 : Int32) (w26 : Int32) (w27 : Int32) (g28 : Nat) (g29 : Nat) (w30 : Int32) (g31 : Nat) (g32 : Nat) (g33 : Nat) (fa : Nat → Int32) (fr : Nat → Int64) (fq : Nat → Int32) (fm : Nat → Int32) (fn : Nat → Int64) (h_a : MI n fa) : Ct l yX8_even cX8_even 9 (some .int) 2 0 0 D T [.ref o, .int row, .int le] [(o, .inr (8, [.int w0, .ref g1, .ref g2, .ref g3, .ref g4, .int (nI tp), .int w6, .int w7, .int w8, .int w9, .int w10, .int w11, .int w12, .int w13, .int w14, .ref g15, .int w16, .ref g17, .int w18, .int w19, .ref g20, .int w21, .ref g22, .ref g23, .ref g24, .int w25, .int w26, .int w27, .ref g28, .ref g29, .int w30, .ref g31, .ref g32, .ref g33])), (g1, .inl (T 0, 282, .inl fa)), (g20, .inl (T 1, 10, .inr (.inl fr))), (g31, .inl (T 0, 4, .inl fq)), (g32, .inl (T 0, 4, .inl fm)), (g33, .inl (T 1, 160, .inr (.inl fn)))] (q_m_even T n o row le w0 g1 g2 g3 g4 tp w6 w7 w8 w9 w10 w11 w12 w13 w14 g15 w16 g17 w18 w19 g20 w21 g22 g23 g24 w25 w26 w27 g28 g29 w30 g31 g32 g33 fa fr fq fm fn) := by
  refine Ct.of (cc := cX8_even) (maxL := 9) (ret := (some .int)) (by decide) (Nat.le_of_ble_eq_true rfl) ?_
  intro p e s m args below meth c A ls hC hnm V hl
  obtain ⟨hx, hb, hr, hml, hown, hts, hlocks⟩ := id hC
  generalize hH : s.heap = H at V ⊢
  clear hH
  have hl : lv_has ls 9 [(0, .ref o), (1, .int row), (2, .int le)] := hl
  generalize hlo : ([] : List Loc) = locs at V ⊢
  clear hlo
  have ms0 := ms_rf h_a
  have hn10 := h_a.1
  refine lv_aload_n hx hb dX8_even_0 rfl (lv_at hl 0 rfl) ?_
  refine lv_iconst (v := (nI 0)) hx hb dX8_even_1 (by decide +kernel) ?_
  refine g_put hC V (ci := 8) uwX8 tyX8 tyX8_ok nmX8 0 rfl rfl 0 (by decide) w_912 rfl rfl rfl rfl (Nat.le_of_ble_eq_true rfl) (ws' := [(o, .inr (8, [.int (nI 0), .ref g1, .ref g2, .ref g3, .ref g4, .int (nI tp), .int w6, .int w7, .int w8, .int w9, .int w10, .int w11, .int w12, .int w13, .int w14, .ref g15, .int w16, .ref g17, .int w18, .int w19, .ref g20, .int w21, .ref g22, .ref g23, .ref g24, .int w25, .int w26, .int w27, .ref g28, .ref g29, .int w30, .ref g31, .ref g32, .ref g33])), (g1, .inl (T 0, 282, .inl fa)), (g20, .inl (T 1, 10, .inr (.inl fr))), (g31, .inl (T 0, 4, .inl fq)), (g32, .inl (T 0, 4, .inl fm)), (g33, .inl (T 1, 160, .inr (.inl fn)))]) rfl dX8_even_2 (fun H locs V => ?_)
  refine lv_iload_n hx hb dX8_even_5 rfl (lv_at hl 1 rfl) ?_
  refine lv_i2l (v := row.toInt64) hx hb dX8_even_6 rfl ?_
  refine lv_lconst (v := (nI 0).toInt64) hx hb dX8_even_7 (by decide +kernel) ?_
  refine lv_ldc2 (v := (3)) hx hb hown (hts _ w_1144) dX8_even_8 ?_
  refine g_vl (y := (nI 3).toInt64) (by decide +kernel) ?_
  refine g_callSU (nA := 3) hC V hl.1 (m_within l D T row (nI 0) (nI 3)) w_1023 w_1024 w_9 w_1025 (by decide +kernel) rfl ⟨(Nat.le_of_ble_eq_true rfl), (Nat.le_of_ble_eq_true rfl)⟩ [] rfl rfl (Nat.le_of_ble_eq_true rfl) dX8_even_11 ⟨(Nat.le_of_ble_eq_true rfl), (Nat.le_of_ble_eq_true rfl)⟩ rfl (fun r w1 H locs hQ V => ?_)
  rcases hQ with ⟨rfl, rfl, f_1, f_2⟩ | ⟨rfl, rfl, f_3⟩
  · have V : gW D T A s [(o, .inr (8, [.int (nI 0), .ref g1, .ref g2, .ref g3, .ref g4, .int (nI tp), .int w6, .int w7, .int w8, .int w9, .int w10, .int w11, .int w12, .int w13, .int w14, .ref g15, .int w16, .ref g17, .int w18, .int w19, .ref g20, .int w21, .ref g22, .ref g23, .ref g24, .int w25, .int w26, .int w27, .ref g28, .ref g29, .int w30, .ref g31, .ref g32, .ref g33])), (g1, .inl (T 0, 282, .inl fa)), (g20, .inl (T 1, 10, .inr (.inl fr))), (g31, .inl (T 0, 4, .inl fq)), (g32, .inl (T 0, 4, .inl fm)), (g33, .inl (T 1, 160, .inr (.inl fn)))] H locs := V _ [] rfl rfl rfl (by decide +kernel) rfl
    show W p l e _ s m args below meth c H locs _ _ _ (F0 m 14 ls [.int (nI 1)])
    obtain ⟨r, hr1, hr2, er⟩ := g_rng (by decide) (by decide) f_1 f_2
    rw [er] at hl
    refine lv_if_ne (tgt := 20) hx hb dX8_even_14 (by decide) (fun _ => ?_) (fun c => absurd (show (nI 1) = 0 from c) (by decide +kernel))
    refine lv_aload_n hx hb dX8_even_20 rfl (lv_at hl 0 rfl) ?_
    refine lv_iload_n hx hb dX8_even_21 rfl (lv_at hl 1 rfl) ?_
    refine lv_iload_n hx hb dX8_even_22 rfl (lv_at hl 2 rfl) ?_
    refine g_callV (wr := []) (nA := 2) hC V hl.1 (m_takesRhythm l D T n o r le (nI 0) g1 g2 g3 g4 tp w6 w7 w8 w9 w10 w11 w12 w13 w14 g15 w16 g17 w18 w19 g20 w21 g22 g23 g24 w25 w26 w27 g28 g29 w30 g31 g32 g33 fa fr fq fm fn h_a (by first | assumption | omega)) w_1224 w_1226 w_s63 w_9 w_1227 (by decide +kernel) rfl ⟨(Nat.le_of_ble_eq_true rfl), (Nat.le_of_ble_eq_true rfl)⟩ 0 (ci := 8) rfl rfl [0, 1, 2, 3, 4, 5] [] rfl rfl rfl rfl (by decide) (Nat.le_of_ble_eq_true rfl) dX8_even_23 ⟨(Nat.le_of_ble_eq_true rfl), (Nat.le_of_ble_eq_true rfl)⟩ rfl (fun r w1 H locs hQ V => ?_)
    rcases hQ with ⟨jl, gR, rfl, rfl, f_4, f_5, f_6⟩ | ⟨z_7, rfl, rfl, f_8⟩
    · have V : gW D T A s [(o, .inr (8, [.int (nI 0), .ref g1, .ref g2, .ref g3, .ref g4, .int (nI tp), .int w6, .int w7, .int w8, .int w9, .int w10, .int w11, .int w12, .int w13, .int w14, .ref g15, .int w16, .ref g17, .int w18, .int w19, .ref g20, .int w21, .ref g22, .ref g23, .ref g24, .int w25, .int w26, .int w27, .ref g28, .ref g29, .int w30, .ref g31, .ref g32, .ref g33])), (g1, .inl (T 0, 282, .inl fa)), (g20, .inl (T 1, 10, .inr (.inl gR))), (g31, .inl (T 0, 4, .inl fq)), (g32, .inl (T 0, 4, .inl fm)), (g33, .inl (T 1, 160, .inr (.inl fn)))] H locs := V
      show W p l e _ s m args below meth c H locs _ _ _ (F0 m 26 ls [.int (nI 0)])
      rw [f_6] at hl
      refine lv_istore_n (lv' := [(3, .int (nI 0)), (0, .ref o), (1, .int (nI r)), (2, .int (nI jl))]) hx hb dX8_even_26 rfl hl (by decide) rfl (fun ls hl => ?_)
      refine lv_iload_n hx hb dX8_even_27 rfl (lv_at hl 0 rfl) ?_
      refine lv_if_eq (tgt := 33) hx hb dX8_even_28 (by decide) (fun _ => ?_) (fun c => absurd (show (nI 0) = 0 by decide +kernel) c)
      refine lv_iconst (v := (nI 0)) hx hb dX8_even_33 (by decide +kernel) ?_
      refine lv_istore (lv' := [(4, .int (nI 0)), (3, .int (nI 0)), (0, .ref o), (1, .int (nI r)), (2, .int (nI jl))]) hx hb dX8_even_34 hl (by decide) rfl (fun ls hl => ?_)
      refine lv_iconst (v := (nI 0)) hx hb dX8_even_36 (by decide +kernel) ?_
      refine lv_istore (lv' := [(5, .int (nI 0)), (4, .int (nI 0)), (3, .int (nI 0)), (0, .ref o), (1, .int (nI r)), (2, .int (nI jl))]) hx hb dX8_even_37 hl (by decide) rfl (fun ls hl => ?_)
      have L_9 : ∀ (fu : Nat) (k39 : Nat) (x39_4 : Int32), k39 ≤ n → n - k39 < fu → ∀ (H : Heap) (locs : List Loc) (ls : Array Slot), gW D T A s [(o, .inr (8, [.int (nI 0), .ref g1, .ref g2, .ref g3, .ref g4, .int (nI tp), .int w6, .int w7, .int w8, .int w9, .int w10, .int w11, .int w12, .int w13, .int w14, .ref g15, .int w16, .ref g17, .int w18, .int w19, .ref g20, .int w21, .ref g22, .ref g23, .ref g24, .int w25, .int w26, .int w27, .ref g28, .ref g29, .int w30, .ref g31, .ref g32, .ref g33])), (g1, .inl (T 0, 282, .inl fa)), (g20, .inl (T 1, 10, .inr (.inl gR))), (g31, .inl (T 0, 4, .inl fq)), (g32, .inl (T 0, 4, .inl fm)), (g33, .inl (T 1, 160, .inr (.inl fn)))] H locs → lv_has ls 9 [(5, .int (nI k39)), (4, .int x39_4), (3, .int (nI 0)), (0, .ref o), (1, .int (nI r)), (2, .int (nI jl))] → W p l e (rmD 2 0 0) s m args below meth c H locs 0 0 (MQ below (gQ D A (q_m_even T n o row le w0 g1 g2 g3 g4 tp w6 w7 w8 w9 w10 w11 w12 w13 w14 g15 w16 g17 w18 w19 g20 w21 g22 g23 g24 w25 w26 w27 g28 g29 w30 g31 g32 g33 fa fr fq fm fn)) args s 0 0 A) (F0 m 39 ls []) := by
        intro fu_39
        induction fu_39 with
        | zero => intro k39 x39_4 hk39 hmu; exact absurd hmu (Nat.not_lt_zero _)
        | succ fu_39 ih_39 =>
          intro k39 x39_4 hk39 hmu_39 H locs ls V hl
          refine lv_iload hx hb dX8_even_39 (lv_at hl 0 rfl) ?_
          refine lv_aload_n hx hb dX8_even_41 rfl (lv_at hl 3 rfl) ?_
          refine g_get hC V (ci := 8) uwX8 0 rfl rfl 1 (by decide) w_913 rfl rfl dX8_even_42 ?_
          refine lv_iconst (v := (nI 0)) hx hb dX8_even_45 (by decide +kernel) ?_
          refine g_iald hC V 1 rfl (vp_in_nI (by decide) (by decide)) (v := (nI n)) (by rw [nI_clamp (by decide)]; first | rfl | exact h_a.2.1) dX8_even_46 ?_
          refine lv_icmp_ge (tgt := 172) hx hb dX8_even_47 (by decide) (fun c_10 => ?_) (fun c_10 => ?_)
          · skip
            have c_10 := b_le (by omega) (by omega) c_10
            refine lv_iload hx hb dX8_even_172 (lv_at hl 1 rfl) ?_
            exact g_iret (Qr := (q_m_even T n o row le w0 g1 g2 g3 g4 tp w6 w7 w8 w9 w10 w11 w12 w13 w14 g15 w16 g17 w18 w19 g20 w21 g22 g23 g24 w25 w26 w27 g28 g29 w30 g31 g32 g33 fa fr fq fm fn)) hC V ⟨(Nat.le_of_ble_eq_true rfl), (Nat.le_of_ble_eq_true rfl)⟩ ⟨x39_4, gR, rfl, rfl⟩ dX8_even_174
          · skip
            have c_10 := b_nle (by omega) (by omega) c_10
            refine lv_iload_n hx hb dX8_even_50 rfl (lv_at hl 5 rfl) ?_
            refine lv_ineg hx hb dX8_even_51 ?_
            refine lv_aload_n hx hb dX8_even_52 rfl (lv_at hl 3 rfl) ?_
            refine g_get hC V (ci := 8) uwX8 0 rfl rfl 1 (by decide) w_913 rfl rfl dX8_even_53 ?_
            refine lv_bipush (v := (nI 14)) hx hb dX8_even_56 (by decide +kernel) ?_
            refine lv_iload hx hb dX8_even_58 (lv_at hl 0 rfl) ?_
            refine lv_iadd hx hb dX8_even_60 ?_
            refine g_vi (y := (nI (14 + k39))) (nI_add _ _) ?_
            obtain ⟨j_11, hj_11, ej_11⟩ := bd_ex (mi_cool h_a (i := k39) (by omega))
            refine g_iald hC V 1 rfl (vp_in_nI (by omega) (by omega)) (v := (nI j_11)) (by rw [nI_clamp (by omega)]; exact ej_11) dX8_even_61 ?_
            refine lv_imul hx hb dX8_even_62 ?_
            refine lv_istore (lv' := [(6, .int ((-(nI jl)) * (nI j_11))), (5, .int (nI k39)), (4, .int x39_4), (3, .int (nI 0)), (0, .ref o), (1, .int (nI r)), (2, .int (nI jl))]) hx hb dX8_even_63 hl (by decide) rfl (fun ls hl => ?_)
            refine lv_iconst (v := (nI 0)) hx hb dX8_even_65 (by decide +kernel) ?_
            refine lv_istore (lv' := [(7, .int (nI 0)), (6, .int ((-(nI jl)) * (nI j_11))), (5, .int (nI k39)), (4, .int x39_4), (3, .int (nI 0)), (0, .ref o), (1, .int (nI r)), (2, .int (nI jl))]) hx hb dX8_even_66 hl (by decide) rfl (fun ls hl => ?_)
            have L_12 : ∀ (fu : Nat) (k68 : Nat) (x68_6 : Int32), k68 ≤ jl → jl - k68 < fu → ∀ (H : Heap) (locs : List Loc) (ls : Array Slot), gW D T A s [(o, .inr (8, [.int (nI 0), .ref g1, .ref g2, .ref g3, .ref g4, .int (nI tp), .int w6, .int w7, .int w8, .int w9, .int w10, .int w11, .int w12, .int w13, .int w14, .ref g15, .int w16, .ref g17, .int w18, .int w19, .ref g20, .int w21, .ref g22, .ref g23, .ref g24, .int w25, .int w26, .int w27, .ref g28, .ref g29, .int w30, .ref g31, .ref g32, .ref g33])), (g1, .inl (T 0, 282, .inl fa)), (g20, .inl (T 1, 10, .inr (.inl gR))), (g31, .inl (T 0, 4, .inl fq)), (g32, .inl (T 0, 4, .inl fm)), (g33, .inl (T 1, 160, .inr (.inl fn)))] H locs → lv_has ls 9 [(7, .int (nI k68)), (6, .int x68_6), (5, .int (nI k39)), (4, .int x39_4), (3, .int (nI 0)), (0, .ref o), (1, .int (nI r)), (2, .int (nI jl))] → W p l e (rmD 2 0 0) s m args below meth c H locs 0 0 (MQ below (gQ D A (q_m_even T n o row le w0 g1 g2 g3 g4 tp w6 w7 w8 w9 w10 w11 w12 w13 w14 g15 w16 g17 w18 w19 g20 w21 g22 g23 g24 w25 w26 w27 g28 g29 w30 g31 g32 g33 fa fr fq fm fn)) args s 0 0 A) (F0 m 68 ls []) := by
              intro fu_68
              induction fu_68 with
              | zero => intro k68 x68_6 hk68 hmu; exact absurd hmu (Nat.not_lt_zero _)
              | succ fu_68 ih_68 =>
                intro k68 x68_6 hk68 hmu_68 H locs ls V hl
                refine lv_iload hx hb dX8_even_68 (lv_at hl 0 rfl) ?_
                refine lv_iload_n hx hb dX8_even_70 rfl (lv_at hl 7 rfl) ?_
                refine lv_icmp_ge (tgt := 148) hx hb dX8_even_71 (by decide) (fun c_13 => ?_) (fun c_13 => ?_)
                · skip
                  have c_13 := b_le (by omega) (by omega) c_13
                  refine lv_iload hx hb dX8_even_148 (lv_at hl 3 rfl) ?_
                  refine lv_iload hx hb dX8_even_150 (lv_at hl 1 rfl) ?_
                  refine lv_if_ne (tgt := 162) hx hb dX8_even_152 (by decide) (fun c_14 => ?_) (fun c_14 => ?_)
                  · skip
                    refine lv_iconst (v := (nI 0)) hx hb dX8_even_162 (by decide +kernel) ?_
                    refine lv_ior hx hb dX8_even_163 ?_
                    refine lv_istore (lv' := [(4, .int (x39_4 ||| (nI 0))), (7, .int (nI k68)), (6, .int x68_6), (5, .int (nI k39)), (3, .int (nI 0)), (0, .ref o), (1, .int (nI r)), (2, .int (nI jl))]) hx hb dX8_even_164 hl (by decide) rfl (fun ls hl => ?_)
                    refine lv_iinc (v := (nI (k39 + 1))) (lv' := [(5, .int (nI (k39 + 1))), (4, .int (x39_4 ||| (nI 0))), (7, .int (nI k68)), (6, .int x68_6), (3, .int (nI 0)), (0, .ref o), (1, .int (nI r)), (2, .int (nI jl))]) hx hb dX8_even_166 hl (k := 3) rfl (nI_1 _) (by decide) rfl (fun ls hl => ?_)
                    refine lv_goto (tgt := 39) hx hb dX8_even_169 (by decide) ?_
                    exact ih_39 (k39 + 1) (x39_4 ||| (nI 0)) (by omega) (by omega) _ _ _ V (lv_sub hl [0, 1, 4, 5, 6, 7] rfl)
                  · skip
                    refine lv_iconst (v := (nI 1)) hx hb dX8_even_155 (by decide +kernel) ?_
                    refine lv_iload hx hb dX8_even_156 (lv_at hl 2 rfl) ?_
                    refine lv_ishl hx hb dX8_even_158 ?_
                    refine lv_goto (tgt := 163) hx hb dX8_even_159 (by decide) ?_
                    refine lv_ior hx hb dX8_even_163 ?_
                    refine lv_istore (lv' := [(4, .int (x39_4 ||| ((nI 1) <<< ((nI k39) &&& 31)))), (7, .int (nI k68)), (6, .int x68_6), (5, .int (nI k39)), (3, .int (nI 0)), (0, .ref o), (1, .int (nI r)), (2, .int (nI jl))]) hx hb dX8_even_164 hl (by decide) rfl (fun ls hl => ?_)
                    refine lv_iinc (v := (nI (k39 + 1))) (lv' := [(5, .int (nI (k39 + 1))), (4, .int (x39_4 ||| ((nI 1) <<< ((nI k39) &&& 31)))), (7, .int (nI k68)), (6, .int x68_6), (3, .int (nI 0)), (0, .ref o), (1, .int (nI r)), (2, .int (nI jl))]) hx hb dX8_even_166 hl (k := 3) rfl (nI_1 _) (by decide) rfl (fun ls hl => ?_)
                    refine lv_goto (tgt := 39) hx hb dX8_even_169 (by decide) ?_
                    exact ih_39 (k39 + 1) (x39_4 ||| ((nI 1) <<< ((nI k39) &&& 31))) (by omega) (by omega) _ _ _ V (lv_sub hl [0, 1, 4, 5, 6, 7] rfl)
                · skip
                  have c_13 := b_nle (by omega) (by omega) c_13
                  refine lv_iconst (v := (nI 0)) hx hb dX8_even_74 (by decide +kernel) ?_
                  refine lv_istore (lv' := [(8, .int (nI 0)), (7, .int (nI k68)), (6, .int x68_6), (5, .int (nI k39)), (4, .int x39_4), (3, .int (nI 0)), (0, .ref o), (1, .int (nI r)), (2, .int (nI jl))]) hx hb dX8_even_75 hl (by decide) rfl (fun ls hl => ?_)
                  have L_15 : ∀ (fu : Nat) (k77 : Nat) (x77_6 : Int32), k77 ≤ n → n - k77 < fu → ∀ (H : Heap) (locs : List Loc) (ls : Array Slot), gW D T A s [(o, .inr (8, [.int (nI 0), .ref g1, .ref g2, .ref g3, .ref g4, .int (nI tp), .int w6, .int w7, .int w8, .int w9, .int w10, .int w11, .int w12, .int w13, .int w14, .ref g15, .int w16, .ref g17, .int w18, .int w19, .ref g20, .int w21, .ref g22, .ref g23, .ref g24, .int w25, .int w26, .int w27, .ref g28, .ref g29, .int w30, .ref g31, .ref g32, .ref g33])), (g1, .inl (T 0, 282, .inl fa)), (g20, .inl (T 1, 10, .inr (.inl gR))), (g31, .inl (T 0, 4, .inl fq)), (g32, .inl (T 0, 4, .inl fm)), (g33, .inl (T 1, 160, .inr (.inl fn)))] H locs → lv_has ls 9 [(8, .int (nI k77)), (7, .int (nI k68)), (6, .int x77_6), (5, .int (nI k39)), (4, .int x39_4), (3, .int (nI 0)), (0, .ref o), (1, .int (nI r)), (2, .int (nI jl))] → W p l e (rmD 2 0 0) s m args below meth c H locs 0 0 (MQ below (gQ D A (q_m_even T n o row le w0 g1 g2 g3 g4 tp w6 w7 w8 w9 w10 w11 w12 w13 w14 g15 w16 g17 w18 w19 g20 w21 g22 g23 g24 w25 w26 w27 g28 g29 w30 g31 g32 g33 fa fr fq fm fn)) args s 0 0 A) (F0 m 77 ls []) := by
                    intro fu_77
                    induction fu_77 with
                    | zero => intro k77 x77_6 hk77 hmu; exact absurd hmu (Nat.not_lt_zero _)
                    | succ fu_77 ih_77 =>
                      intro k77 x77_6 hk77 hmu_77 H locs ls V hl
                      refine lv_iload hx hb dX8_even_77 (lv_at hl 0 rfl) ?_
                      refine lv_aload_n hx hb dX8_even_79 rfl (lv_at hl 6 rfl) ?_
                      refine g_get hC V (ci := 8) uwX8 0 rfl rfl 1 (by decide) w_913 rfl rfl dX8_even_80 ?_
                      refine lv_iconst (v := (nI 0)) hx hb dX8_even_83 (by decide +kernel) ?_
                      refine g_iald hC V 1 rfl (vp_in_nI (by decide) (by decide)) (v := (nI n)) (by rw [nI_clamp (by decide)]; first | rfl | exact h_a.2.1) dX8_even_84 ?_
                      refine lv_icmp_ge (tgt := 142) hx hb dX8_even_85 (by decide) (fun c_16 => ?_) (fun c_16 => ?_)
                      · skip
                        have c_16 := b_le (by omega) (by omega) c_16
                        refine lv_iinc (v := (nI (k68 + 1))) (lv' := [(7, .int (nI (k68 + 1))), (8, .int (nI k77)), (6, .int x77_6), (5, .int (nI k39)), (4, .int x39_4), (3, .int (nI 0)), (0, .ref o), (1, .int (nI r)), (2, .int (nI jl))]) hx hb dX8_even_142 hl (k := 1) rfl (nI_1 _) (by decide) rfl (fun ls hl => ?_)
                        refine lv_goto (tgt := 68) hx hb dX8_even_145 (by decide) ?_
                        exact ih_68 (k68 + 1) x77_6 (by omega) (by omega) _ _ _ V (lv_sub hl [0, 2, 3, 4, 5, 6, 7, 8] rfl)
                      · skip
                        have c_16 := b_nle (by omega) (by omega) c_16
                        refine lv_iload hx hb dX8_even_88 (lv_at hl 2 rfl) ?_
                        refine lv_aload_n hx hb dX8_even_90 rfl (lv_at hl 6 rfl) ?_
                        refine g_get hC V (ci := 8) uwX8 0 rfl rfl 1 (by decide) w_913 rfl rfl dX8_even_91 ?_
                        refine lv_bipush (v := (nI 84)) hx hb dX8_even_94 (by decide +kernel) ?_
                        refine lv_iload hx hb dX8_even_96 (lv_at hl 0 rfl) ?_
                        refine lv_iadd hx hb dX8_even_98 ?_
                        refine g_vi (y := (nI (84 + k77))) (nI_add _ _) ?_
                        obtain ⟨j_17, hj_17, ej_17⟩ := bd_ex (mi_to h_a (i := k77) (by omega))
                        refine g_iald hC V 1 rfl (vp_in_nI (by omega) (by omega)) (v := (nI j_17)) (by rw [nI_clamp (by omega)]; exact ej_17) dX8_even_99 ?_
                        refine lv_iload hx hb dX8_even_100 (lv_at hl 3 rfl) ?_
                        refine lv_icmp_ne (tgt := 132) hx hb dX8_even_102 (by decide) (fun c_18 => ?_) (fun c_18 => ?_)
                        · skip
                          have c_18 := b_ne (by omega) (by omega) c_18
                          refine lv_iconst (v := (nI 0)) hx hb dX8_even_132 (by decide +kernel) ?_
                          refine lv_iadd hx hb dX8_even_133 ?_
                          refine lv_istore (lv' := [(6, .int (x77_6 + (nI 0))), (8, .int (nI k77)), (7, .int (nI k68)), (5, .int (nI k39)), (4, .int x39_4), (3, .int (nI 0)), (0, .ref o), (1, .int (nI r)), (2, .int (nI jl))]) hx hb dX8_even_134 hl (by decide) rfl (fun ls hl => ?_)
                          refine lv_iinc (v := (nI (k77 + 1))) (lv' := [(8, .int (nI (k77 + 1))), (6, .int (x77_6 + (nI 0))), (7, .int (nI k68)), (5, .int (nI k39)), (4, .int x39_4), (3, .int (nI 0)), (0, .ref o), (1, .int (nI r)), (2, .int (nI jl))]) hx hb dX8_even_136 hl (k := 1) rfl (nI_1 _) (by decide) rfl (fun ls hl => ?_)
                          refine lv_goto (tgt := 77) hx hb dX8_even_139 (by decide) ?_
                          exact ih_77 (k77 + 1) (x77_6 + (nI 0)) (by omega) (by omega) _ _ _ V (lv_sub hl [0, 2, 1, 3, 4, 5, 6, 7, 8] rfl)
                        · skip
                          have c_18 := b_eq (by omega) (by omega) c_18
                          refine lv_aload_n hx hb dX8_even_105 rfl (lv_at hl 6 rfl) ?_
                          refine g_get hC V (ci := 8) uwX8 0 rfl rfl 20 (by decide) w_932 rfl rfl dX8_even_106 ?_
                          refine lv_iload hx hb dX8_even_109 (lv_at hl 0 rfl) ?_
                          refine g_lald hC V 2 rfl (vp_in_nI (by omega) (by omega)) (v := (gR k77)) (congrArg _ (nI_clamp (by omega))) dX8_even_111 ?_
                          refine lv_iload hx hb dX8_even_112 (lv_at hl 1 rfl) ?_
                          refine g_callSU (nA := 2) hC V hl.1 (m_isIn l D T (gR k77) (nI k68)) w_1130 w_1131 w_9 w_1132 (by decide +kernel) rfl ⟨(Nat.le_of_ble_eq_true rfl), (Nat.le_of_ble_eq_true rfl)⟩ [] rfl rfl (Nat.le_of_ble_eq_true rfl) dX8_even_114 ⟨(Nat.le_of_ble_eq_true rfl), (Nat.le_of_ble_eq_true rfl)⟩ rfl (fun r w1 H locs hQ V => ?_)
                          rcases hQ with ⟨rfl, rfl⟩ | ⟨rfl, rfl⟩
                          · have V : gW D T A s [(o, .inr (8, [.int (nI 0), .ref g1, .ref g2, .ref g3, .ref g4, .int (nI tp), .int w6, .int w7, .int w8, .int w9, .int w10, .int w11, .int w12, .int w13, .int w14, .ref g15, .int w16, .ref g17, .int w18, .int w19, .ref g20, .int w21, .ref g22, .ref g23, .ref g24, .int w25, .int w26, .int w27, .ref g28, .ref g29, .int w30, .ref g31, .ref g32, .ref g33])), (g1, .inl (T 0, 282, .inl fa)), (g20, .inl (T 1, 10, .inr (.inl gR))), (g31, .inl (T 0, 4, .inl fq)), (g32, .inl (T 0, 4, .inl fm)), (g33, .inl (T 1, 160, .inr (.inl fn)))] H locs := V _ [] rfl rfl rfl (by decide +kernel) rfl
                            show W p l e _ s m args below meth c H locs _ _ _ (F0 m 117 ls [.int (nI 1), .int x77_6])
                            refine lv_if_eq (tgt := 132) hx hb dX8_even_117 (by decide) (fun c => absurd (show (nI 1) = 0 from c) (by decide +kernel)) (fun _ => ?_)
                            refine lv_aload_n hx hb dX8_even_120 rfl (lv_at hl 6 rfl) ?_
                            refine g_get hC V (ci := 8) uwX8 0 rfl rfl 1 (by decide) w_913 rfl rfl dX8_even_121 ?_
                            refine lv_iconst (v := (nI 4)) hx hb dX8_even_124 (by decide +kernel) ?_
                            refine lv_iload hx hb dX8_even_125 (lv_at hl 0 rfl) ?_
                            refine lv_iadd hx hb dX8_even_127 ?_
                            refine g_vi (y := (nI (4 + k77))) (nI_add _ _) ?_
                            obtain ⟨j_19, hj_19, ej_19⟩ := bd_ex (mi_blast h_a (i := k77) (by omega))
                            refine g_iald hC V 1 rfl (vp_in_nI (by omega) (by omega)) (v := (nI j_19)) (by rw [nI_clamp (by omega)]; exact ej_19) dX8_even_128 ?_
                            refine lv_goto (tgt := 133) hx hb dX8_even_129 (by decide) ?_
                            refine lv_iadd hx hb dX8_even_133 ?_
                            refine lv_istore (lv' := [(6, .int (x77_6 + (nI j_19))), (8, .int (nI k77)), (7, .int (nI k68)), (5, .int (nI k39)), (4, .int x39_4), (3, .int (nI 0)), (0, .ref o), (1, .int (nI r)), (2, .int (nI jl))]) hx hb dX8_even_134 hl (by decide) rfl (fun ls hl => ?_)
                            refine lv_iinc (v := (nI (k77 + 1))) (lv' := [(8, .int (nI (k77 + 1))), (6, .int (x77_6 + (nI j_19))), (7, .int (nI k68)), (5, .int (nI k39)), (4, .int x39_4), (3, .int (nI 0)), (0, .ref o), (1, .int (nI r)), (2, .int (nI jl))]) hx hb dX8_even_136 hl (k := 1) rfl (nI_1 _) (by decide) rfl (fun ls hl => ?_)
                            refine lv_goto (tgt := 77) hx hb dX8_even_139 (by decide) ?_
                            exact ih_77 (k77 + 1) (x77_6 + (nI j_19)) (by omega) (by omega) _ _ _ V (lv_sub hl [0, 2, 1, 3, 4, 5, 6, 7, 8] rfl)
                          · have V : gW D T A s [(o, .inr (8, [.int (nI 0), .ref g1, .ref g2, .ref g3, .ref g4, .int (nI tp), .int w6, .int w7, .int w8, .int w9, .int w10, .int w11, .int w12, .int w13, .int w14, .ref g15, .int w16, .ref g17, .int w18, .int w19, .ref g20, .int w21, .ref g22, .ref g23, .ref g24, .int w25, .int w26, .int w27, .ref g28, .ref g29, .int w30, .ref g31, .ref g32, .ref g33])), (g1, .inl (T 0, 282, .inl fa)), (g20, .inl (T 1, 10, .inr (.inl gR))), (g31, .inl (T 0, 4, .inl fq)), (g32, .inl (T 0, 4, .inl fm)), (g33, .inl (T 1, 160, .inr (.inl fn)))] H locs := V _ [] rfl rfl rfl (by decide +kernel) rfl
                            show W p l e _ s m args below meth c H locs _ _ _ (F0 m 117 ls [.int (nI 0), .int x77_6])
                            refine lv_if_eq (tgt := 132) hx hb dX8_even_117 (by decide) (fun _ => ?_) (fun c => absurd (show (nI 0) = 0 by decide +kernel) c)
                            refine lv_iconst (v := (nI 0)) hx hb dX8_even_132 (by decide +kernel) ?_
                            refine lv_iadd hx hb dX8_even_133 ?_
                            refine lv_istore (lv' := [(6, .int (x77_6 + (nI 0))), (8, .int (nI k77)), (7, .int (nI k68)), (5, .int (nI k39)), (4, .int x39_4), (3, .int (nI 0)), (0, .ref o), (1, .int (nI r)), (2, .int (nI jl))]) hx hb dX8_even_134 hl (by decide) rfl (fun ls hl => ?_)
                            refine lv_iinc (v := (nI (k77 + 1))) (lv' := [(8, .int (nI (k77 + 1))), (6, .int (x77_6 + (nI 0))), (7, .int (nI k68)), (5, .int (nI k39)), (4, .int x39_4), (3, .int (nI 0)), (0, .ref o), (1, .int (nI r)), (2, .int (nI jl))]) hx hb dX8_even_136 hl (k := 1) rfl (nI_1 _) (by decide) rfl (fun ls hl => ?_)
                            refine lv_goto (tgt := 77) hx hb dX8_even_139 (by decide) ?_
                            exact ih_77 (k77 + 1) (x77_6 + (nI 0)) (by omega) (by omega) _ _ _ V (lv_sub hl [0, 2, 1, 3, 4, 5, 6, 7, 8] rfl)
                  exact L_15 _ 0 x68_6 (by omega) (Nat.lt_succ_self _) _ _ _ V (lv_sub hl [0, 1, 2, 3, 4, 5, 6, 7, 8] rfl)
            exact L_12 _ 0 ((-(nI jl)) * (nI j_11)) (by omega) (Nat.lt_succ_self _) _ _ _ V (lv_sub hl [0, 1, 2, 3, 4, 5, 6, 7] rfl)
      exact L_9 _ 0 (nI 0) (by omega) (Nat.lt_succ_self _) _ _ _ V (lv_sub hl [0, 1, 2, 3, 4, 5] rfl)
    · have V : gW D T A s [(o, .inr (8, [.int (nI 0), .ref g1, .ref g2, .ref g3, .ref g4, .int (nI tp), .int w6, .int w7, .int w8, .int w9, .int w10, .int w11, .int w12, .int w13, .int w14, .ref g15, .int w16, .ref g17, .int w18, .int w19, .ref g20, .int w21, .ref g22, .ref g23, .ref g24, .int w25, .int w26, .int w27, .ref g28, .ref g29, .int w30, .ref g31, .ref g32, .ref g33])), (g1, .inl (T 0, 282, .inl fa)), (g20, .inl (T 1, 10, .inr (.inl fr))), (g31, .inl (T 0, 4, .inl fq)), (g32, .inl (T 0, 4, .inl fm)), (g33, .inl (T 1, 160, .inr (.inl fn)))] H locs := V
      show W p l e _ s m args below meth c H locs _ _ _ (F0 m 26 ls [.int z_7])
      refine lv_istore_n (lv' := [(3, .int z_7), (0, .ref o), (1, .int (nI r)), (2, .int le)]) hx hb dX8_even_26 rfl hl (by decide) rfl (fun ls hl => ?_)
      refine lv_iload_n hx hb dX8_even_27 rfl (lv_at hl 0 rfl) ?_
      refine lv_if_eq (tgt := 33) hx hb dX8_even_28 (by decide) (fun c_20 => ?_) (fun c_20 => ?_)
      · skip
        exact (absurd c_20 (by assumption) : False).elim
      · skip
        refine lv_iload_n hx hb dX8_even_31 rfl (lv_at hl 0 rfl) ?_
        exact g_iret (Qr := (q_m_even T n o row le w0 g1 g2 g3 g4 tp w6 w7 w8 w9 w10 w11 w12 w13 w14 g15 w16 g17 w18 w19 g20 w21 g22 g23 g24 w25 w26 w27 g28 g29 w30 g31 g32 g33 fa fr fq fm fn)) hC V ⟨(Nat.le_of_ble_eq_true rfl), (Nat.le_of_ble_eq_true rfl)⟩ ⟨z_7, fr, rfl, rfl⟩ dX8_even_32
  · have V : gW D T A s [(o, .inr (8, [.int (nI 0), .ref g1, .ref g2, .ref g3, .ref g4, .int (nI tp), .int w6, .int w7, .int w8, .int w9, .int w10, .int w11, .int w12, .int w13, .int w14, .ref g15, .int w16, .ref g17, .int w18, .int w19, .ref g20, .int w21, .ref g22, .ref g23, .ref g24, .int w25, .int w26, .int w27, .ref g28, .ref g29, .int w30, .ref g31, .ref g32, .ref g33])), (g1, .inl (T 0, 282, .inl fa)), (g20, .inl (T 1, 10, .inr (.inl fr))), (g31, .inl (T 0, 4, .inl fq)), (g32, .inl (T 0, 4, .inl fm)), (g33, .inl (T 1, 160, .inr (.inl fn)))] H locs := V _ [] rfl rfl rfl (by decide +kernel) rfl
    show W p l e _ s m args below meth c H locs _ _ _ (F0 m 14 ls [.int (nI 0)])
    refine lv_if_ne (tgt := 20) hx hb dX8_even_14 (by decide) (fun c => absurd (show (nI 0) = 0 by decide +kernel) c) (fun _ => ?_)
    refine lv_bipush (v := (-2)) hx hb dX8_even_17 (by decide +kernel) ?_
    exact g_iret (Qr := (q_m_even T n o row le w0 g1 g2 g3 g4 tp w6 w7 w8 w9 w10 w11 w12 w13 w14 g15 w16 g17 w18 w19 g20 w21 g22 g23 g24 w25 w26 w27 g28 g29 w30 g31 g32 g33 fa fr fq fm fn)) hC V ⟨(Nat.le_of_ble_eq_true rfl), (Nat.le_of_ble_eq_true rfl)⟩ ⟨(-2), fr, rfl, rfl⟩ dX8_even_19

def q_m_waves (T : Nat → ClassId) (n : Nat) (o : Nat) (le : Nat) (step : Int32) (w0 : Int32) (g1 : Nat) (g2 : Nat) (g3 : Nat) (g4 : Nat) (tp : Nat) (w6 : Int32) (w7 : Int32) (w8 : Int32) (w9 : Int32) (w10 : Int32) (w11 : Int32) (w12 : Int32) (w13 : Int32) (w14 : Int32) (g15 : Nat) (w16 : Int32) (g17 : Nat) (w18 : Int32) (w19 : Int32) (g20 : Nat) (w21 : Int32) (g22 : Nat) (g23 : Nat) (g24 : Nat) (w25 : Int32) (w26 : Int32) (w27 : Int32) (g28 : Nat) (g29 : Nat) (w30 : Int32) (g31 : Nat) (g32 : Nat) (g33 : Nat) (fa : Nat → Int32) (fh : Nat → Int32) (fk : Nat → Int32) (fr : Nat → Int64) : Option Value → va_W → Prop := fun rr ww => (∃ (z : Int32) (wq : Int32) (gh : Nat → Int32) (gk : Nat → Int32) (gr : Nat → Int64), rr = some (.int z) ∧ ww = [(o, .inr (8, [.int w0, .ref g1, .ref g2, .ref g3, .ref g4, .int (nI tp), .int w6, .int w7, .int w8, .int w9, .int w10, .int w11, .int w12, .int w13, .int w14, .ref g15, .int w16, .ref g17, .int w18, .int w19, .ref g20, .int wq, .ref g22, .ref g23, .ref g24, .int w25, .int w26, .int w27, .ref g28, .ref g29, .int w30, .ref g31, .ref g32, .ref g33])), (g1, .inl (T 0, 282, .inl fa)), (g15, .inl (T 0, 10, .inl gh)), (g17, .inl (T 0, 94, .inl gk)), (g20, .inl (T 1, 10, .inr (.inl gr)))])
set_option maxHeartbeats 4000000 in
set_option maxRecDepth 100000 in
theorem m_waves (l : Launch) (D : va_G) (T : Nat → ClassId) (n : Nat) (o : Nat) (le : Nat) (step : Int32) (w0 : Int32) (g1 : Nat) (g2 : Nat) (g3 : Nat) (g4 : Nat) (tp : Nat) (w6 : Int32) (w7 : Int32) (w8 : Int32) (w9 : Int32) (w10 : Int32) (w11 : Int32) (w12 : Int32) (w13 : Int32) (w14 : Int32) (g15 : Nat) (w16 : Int32) (g17 : Nat) (w18 : Int32) (w19 : Int32) (g20 : Nat) (w21 : Int32) (g22 : Nat) (g23 : Nat) (g24 : Nat) (w25 : Int32) (w26 : Int32) (w27 : Int32) (g28 : Nat) (g29 : Nat) (w30 : Int32) (g31 : Nat) (g32 : Nat) (g33 : Nat) (fa : Nat → Int32) (fh : Nat → Int32) (fk : Nat → Int32) (fr : Nat → Int64) (h_a : MI n fa) (h_l : 1 ≤ le ∧ le ≤ 12) : Ct l yX8_waves cX8_waves 4 (some .int) 4 0 0 D T [.ref o, .int (nI le), .int step] [(o, .inr (8, [.int w0, .ref g1, .ref g2, .ref g3, .ref g4, .int (nI tp), .int w6, .int w7, .int w8, .int w9, .int w10, .int w11, .int w12, .int w13, .int w14, .ref g15, .int w16, .ref g17, .int w18, .int w19, .ref g20, .int w21, .ref g22, .ref g23, .ref g24, .int w25, .int w26, .int w27, .ref g28, .ref g29, .int w30, .ref g31, .ref g32, .ref g33])), (g1, .inl (T 0, 282, .inl fa)), (g15, .inl (T 0, 10, .inl fh)), (g17, .inl (T 0, 94, .inl fk)), (g20, .inl (T 1, 10, .inr (.inl fr)))] (q_m_waves T n o le step w0 g1 g2 g3 g4 tp w6 w7 w8 w9 w10 w11 w12 w13 w14 g15 w16 g17 w18 w19 g20 w21 g22 g23 g24 w25 w26 w27 g28 g29 w30 g31 g32 g33 fa fh fk fr) := by
  refine Ct.of (cc := cX8_waves) (maxL := 4) (ret := (some .int)) (by decide) (Nat.le_of_ble_eq_true rfl) ?_
  intro p e s m args below meth c A ls hC hnm V hl
  obtain ⟨hx, hb, hr, hml, hown, hts, hlocks⟩ := id hC
  generalize hH : s.heap = H at V ⊢
  clear hH
  have hl : lv_has ls 4 [(0, .ref o), (1, .int (nI le)), (2, .int step)] := hl
  generalize hlo : ([] : List Loc) = locs at V ⊢
  clear hlo
  have ms0 := ms_rf h_a
  have hn10 := h_a.1
  refine lv_iconst (v := (nI 0)) hx hb dX8_waves_0 (by decide +kernel) ?_
  refine lv_istore_n (lv' := [(3, .int (nI 0)), (0, .ref o), (1, .int (nI le)), (2, .int step)]) hx hb dX8_waves_1 rfl hl (by decide) rfl (fun ls hl => ?_)
  have L_1 : ∀ (fu : Nat) (k2 : Nat) (gq : Nat → Int64), k2 ≤ n → n - k2 < fu → ∀ (H : Heap) (locs : List Loc) (ls : Array Slot), gW D T A s [(o, .inr (8, [.int w0, .ref g1, .ref g2, .ref g3, .ref g4, .int (nI tp), .int w6, .int w7, .int w8, .int w9, .int w10, .int w11, .int w12, .int w13, .int w14, .ref g15, .int w16, .ref g17, .int w18, .int w19, .ref g20, .int w21, .ref g22, .ref g23, .ref g24, .int w25, .int w26, .int w27, .ref g28, .ref g29, .int w30, .ref g31, .ref g32, .ref g33])), (g1, .inl (T 0, 282, .inl fa)), (g15, .inl (T 0, 10, .inl fh)), (g17, .inl (T 0, 94, .inl fk)), (g20, .inl (T 1, 10, .inr (.inl gq)))] H locs → lv_has ls 4 [(3, .int (nI k2)), (0, .ref o), (1, .int (nI le)), (2, .int step)] → W p l e (rmD 4 0 0) s m args below meth c H locs 0 0 (MQ below (gQ D A (q_m_waves T n o le step w0 g1 g2 g3 g4 tp w6 w7 w8 w9 w10 w11 w12 w13 w14 g15 w16 g17 w18 w19 g20 w21 g22 g23 g24 w25 w26 w27 g28 g29 w30 g31 g32 g33 fa fh fk fr)) args s 0 0 A) (F0 m 2 ls []) := by
    intro fu_2
    induction fu_2 with
    | zero => intro k2 gq hk2 hmu; exact absurd hmu (Nat.not_lt_zero _)
    | succ fu_2 ih_2 =>
      intro k2 gq hk2 hmu_2 H locs ls V hl
      refine lv_iload_n hx hb dX8_waves_2 rfl (lv_at hl 0 rfl) ?_
      refine lv_aload_n hx hb dX8_waves_3 rfl (lv_at hl 1 rfl) ?_
      refine g_get hC V (ci := 8) uwX8 0 rfl rfl 1 (by decide) w_913 rfl rfl dX8_waves_4 ?_
      refine lv_iconst (v := (nI 0)) hx hb dX8_waves_7 (by decide +kernel) ?_
      refine g_iald hC V 1 rfl (vp_in_nI (by decide) (by decide)) (v := (nI n)) (by rw [nI_clamp (by decide)]; first | rfl | exact h_a.2.1) dX8_waves_8 ?_
      refine lv_icmp_ge (tgt := 31) hx hb dX8_waves_9 (by decide) (fun c_2 => ?_) (fun c_2 => ?_)
      · skip
        have c_2 := b_le (by omega) (by omega) c_2
        refine lv_aload_n hx hb dX8_waves_31 rfl (lv_at hl 1 rfl) ?_
        refine lv_iload_n hx hb dX8_waves_32 rfl (lv_at hl 2 rfl) ?_
        refine g_callV (wr := []) (nA := 1) hC V hl.1 (m_holdsBy l D T n o le w0 g1 g2 g3 g4 tp w6 w7 w8 w9 w10 w11 w12 w13 w14 g15 w16 g17 w18 w19 g20 w21 g22 g23 g24 w25 w26 w27 g28 g29 w30 g31 g32 g33 fa fh fk gq h_a (by first | assumption | omega)) w_1229 w_1231 w_s64 w_9 w_1232 (by decide +kernel) rfl ⟨(Nat.le_of_ble_eq_true rfl), (Nat.le_of_ble_eq_true rfl)⟩ 0 (ci := 8) rfl rfl [0, 1, 2, 3, 4] [] rfl rfl rfl rfl (by decide) (Nat.le_of_ble_eq_true rfl) dX8_waves_33 ⟨(Nat.le_of_ble_eq_true rfl), (Nat.le_of_ble_eq_true rfl)⟩ rfl (fun r w1 H locs hQ V => ?_)
        obtain ⟨z_3, wq_4, gh_5, gk_6, rfl, rfl⟩ := hQ
        have V : gW D T A s [(o, .inr (8, [.int w0, .ref g1, .ref g2, .ref g3, .ref g4, .int (nI tp), .int w6, .int w7, .int w8, .int w9, .int w10, .int w11, .int w12, .int w13, .int w14, .ref g15, .int w16, .ref g17, .int w18, .int w19, .ref g20, .int wq_4, .ref g22, .ref g23, .ref g24, .int w25, .int w26, .int w27, .ref g28, .ref g29, .int w30, .ref g31, .ref g32, .ref g33])), (g1, .inl (T 0, 282, .inl fa)), (g15, .inl (T 0, 10, .inl gh_5)), (g17, .inl (T 0, 94, .inl gk_6)), (g20, .inl (T 1, 10, .inr (.inl gq)))] H locs := V
        show W p l e _ s m args below meth c H locs _ _ _ (F0 m 36 ls [.int z_3])
        exact g_iret (Qr := (q_m_waves T n o le step w0 g1 g2 g3 g4 tp w6 w7 w8 w9 w10 w11 w12 w13 w14 g15 w16 g17 w18 w19 g20 w21 g22 g23 g24 w25 w26 w27 g28 g29 w30 g31 g32 g33 fa fh fk fr)) hC V ⟨(Nat.le_of_ble_eq_true rfl), (Nat.le_of_ble_eq_true rfl)⟩ ⟨z_3, wq_4, gh_5, gk_6, gq, rfl, rfl⟩ dX8_waves_36
      · skip
        have c_2 := b_nle (by omega) (by omega) c_2
        refine lv_aload_n hx hb dX8_waves_12 rfl (lv_at hl 1 rfl) ?_
        refine g_get hC V (ci := 8) uwX8 0 rfl rfl 20 (by decide) w_932 rfl rfl dX8_waves_13 ?_
        refine lv_iload_n hx hb dX8_waves_16 rfl (lv_at hl 0 rfl) ?_
        refine lv_lconst (v := (nI 1).toInt64) hx hb dX8_waves_17 (by decide +kernel) ?_
        refine lv_iload_n hx hb dX8_waves_18 rfl (lv_at hl 0 rfl) ?_
        refine lv_iload_n hx hb dX8_waves_19 rfl (lv_at hl 3 rfl) ?_
        refine lv_imul hx hb dX8_waves_20 ?_
        refine lv_iload_n hx hb dX8_waves_21 rfl (lv_at hl 2 rfl) ?_
        refine lv_irem hx hb dX8_waves_22 (nI_ne0 (by omega) (by omega)) ?_
        refine lv_lshl hx hb dX8_waves_23 rfl ?_
        refine lv_topl (fun y_7 ey_7 => ?_)
        refine g_last hC V 4 rfl (vp_in_nI (by omega) (by omega)) (f' := (vp_updL gq k2 y_7)) (by rw [nI_clamp (by omega)]) (ws' := [(o, .inr (8, [.int w0, .ref g1, .ref g2, .ref g3, .ref g4, .int (nI tp), .int w6, .int w7, .int w8, .int w9, .int w10, .int w11, .int w12, .int w13, .int w14, .ref g15, .int w16, .ref g17, .int w18, .int w19, .ref g20, .int w21, .ref g22, .ref g23, .ref g24, .int w25, .int w26, .int w27, .ref g28, .ref g29, .int w30, .ref g31, .ref g32, .ref g33])), (g1, .inl (T 0, 282, .inl fa)), (g15, .inl (T 0, 10, .inl fh)), (g17, .inl (T 0, 94, .inl fk)), (g20, .inl (T 1, 10, .inr (.inl (vp_updL gq k2 y_7))))]) rfl dX8_waves_24 (fun H locs V => ?_)
        refine lv_iinc (v := (nI (k2 + 1))) (lv' := [(3, .int (nI (k2 + 1))), (0, .ref o), (1, .int (nI le)), (2, .int step)]) hx hb dX8_waves_25 hl (k := 0) rfl (nI_1 _) (by decide) rfl (fun ls hl => ?_)
        refine lv_goto (tgt := 2) hx hb dX8_waves_28 (by decide) ?_
        exact ih_2 (k2 + 1) (vp_updL gq k2 y_7) (by omega) (by omega) _ _ _ V (lv_sub hl [0, 1, 2, 3] rfl)
  exact L_1 _ 0 fr (by omega) (Nat.lt_succ_self _) _ _ _ V (lv_sub hl [0, 1, 2, 3] rfl)

def q_m_wave (T : Nat → ClassId) (n : Nat) (o : Nat) (le : Int32) (step : Int32) (w0 : Int32) (g1 : Nat) (g2 : Nat) (g3 : Nat) (g4 : Nat) (tp : Nat) (w6 : Int32) (w7 : Int32) (w8 : Int32) (w9 : Int32) (w10 : Int32) (w11 : Int32) (w12 : Int32) (w13 : Int32) (w14 : Int32) (g15 : Nat) (w16 : Int32) (g17 : Nat) (w18 : Int32) (w19 : Int32) (g20 : Nat) (w21 : Int32) (g22 : Nat) (g23 : Nat) (g24 : Nat) (w25 : Int32) (w26 : Int32) (w27 : Int32) (g28 : Nat) (g29 : Nat) (w30 : Int32) (g31 : Nat) (g32 : Nat) (g33 : Nat) (fa : Nat → Int32) (fh : Nat → Int32) (fk : Nat → Int32) (fr : Nat → Int64) : Option Value → va_W → Prop := fun rr ww => (∃ (z : Int32) (wq : Int32) (gh : Nat → Int32) (gk : Nat → Int32) (gr : Nat → Int64), rr = some (.int z) ∧ ww = [(o, .inr (8, [.int (nI 0), .ref g1, .ref g2, .ref g3, .ref g4, .int (nI tp), .int w6, .int w7, .int w8, .int w9, .int w10, .int w11, .int w12, .int w13, .int w14, .ref g15, .int w16, .ref g17, .int w18, .int w19, .ref g20, .int wq, .ref g22, .ref g23, .ref g24, .int w25, .int w26, .int w27, .ref g28, .ref g29, .int w30, .ref g31, .ref g32, .ref g33])), (g1, .inl (T 0, 282, .inl fa)), (g15, .inl (T 0, 10, .inl gh)), (g17, .inl (T 0, 94, .inl gk)), (g20, .inl (T 1, 10, .inr (.inl gr)))])
set_option maxHeartbeats 4000000 in
set_option maxRecDepth 100000 in
theorem m_wave (l : Launch) (D : va_G) (T : Nat → ClassId) (n : Nat) (o : Nat) (le : Int32) (step : Int32) (w0 : Int32) (g1 : Nat) (g2 : Nat) (g3 : Nat) (g4 : Nat) (tp : Nat) (w6 : Int32) (w7 : Int32) (w8 : Int32) (w9 : Int32) (w10 : Int32) (w11 : Int32) (w12 : Int32) (w13 : Int32) (w14 : Int32) (g15 : Nat) (w16 : Int32) (g17 : Nat) (w18 : Int32) (w19 : Int32) (g20 : Nat) (w21 : Int32) (g22 : Nat) (g23 : Nat) (g24 : Nat) (w25 : Int32) (w26 : Int32) (w27 : Int32) (g28 : Nat) (g29 : Nat) (w30 : Int32) (g31 : Nat) (g32 : Nat) (g33 : Nat) (fa : Nat → Int32) (fh : Nat → Int32) (fk : Nat → Int32) (fr : Nat → Int64) (h_a : MI n fa) : Ct l yX8_wave cX8_wave 3 (some .int) 5 0 0 D T [.ref o, .int le, .int step] [(o, .inr (8, [.int w0, .ref g1, .ref g2, .ref g3, .ref g4, .int (nI tp), .int w6, .int w7, .int w8, .int w9, .int w10, .int w11, .int w12, .int w13, .int w14, .ref g15, .int w16, .ref g17, .int w18, .int w19, .ref g20, .int w21, .ref g22, .ref g23, .ref g24, .int w25, .int w26, .int w27, .ref g28, .ref g29, .int w30, .ref g31, .ref g32, .ref g33])), (g1, .inl (T 0, 282, .inl fa)), (g15, .inl (T 0, 10, .inl fh)), (g17, .inl (T 0, 94, .inl fk)), (g20, .inl (T 1, 10, .inr (.inl fr)))] (q_m_wave T n o le step w0 g1 g2 g3 g4 tp w6 w7 w8 w9 w10 w11 w12 w13 w14 g15 w16 g17 w18 w19 g20 w21 g22 g23 g24 w25 w26 w27 g28 g29 w30 g31 g32 g33 fa fh fk fr) := by
  refine Ct.of (cc := cX8_wave) (maxL := 3) (ret := (some .int)) (by decide) (Nat.le_of_ble_eq_true rfl) ?_
  intro p e s m args below meth c A ls hC hnm V hl
  obtain ⟨hx, hb, hr, hml, hown, hts, hlocks⟩ := id hC
  generalize hH : s.heap = H at V ⊢
  clear hH
  have hl : lv_has ls 3 [(0, .ref o), (1, .int le), (2, .int step)] := hl
  generalize hlo : ([] : List Loc) = locs at V ⊢
  clear hlo
  have ms0 := ms_rf h_a
  have hn10 := h_a.1
  refine lv_aload_n hx hb dX8_wave_0 rfl (lv_at hl 0 rfl) ?_
  refine lv_iconst (v := (nI 0)) hx hb dX8_wave_1 (by decide +kernel) ?_
  refine g_put hC V (ci := 8) uwX8 tyX8 tyX8_ok nmX8 0 rfl rfl 0 (by decide) w_912 rfl rfl rfl rfl (Nat.le_of_ble_eq_true rfl) (ws' := [(o, .inr (8, [.int (nI 0), .ref g1, .ref g2, .ref g3, .ref g4, .int (nI tp), .int w6, .int w7, .int w8, .int w9, .int w10, .int w11, .int w12, .int w13, .int w14, .ref g15, .int w16, .ref g17, .int w18, .int w19, .ref g20, .int w21, .ref g22, .ref g23, .ref g24, .int w25, .int w26, .int w27, .ref g28, .ref g29, .int w30, .ref g31, .ref g32, .ref g33])), (g1, .inl (T 0, 282, .inl fa)), (g15, .inl (T 0, 10, .inl fh)), (g17, .inl (T 0, 94, .inl fk)), (g20, .inl (T 1, 10, .inr (.inl fr)))]) rfl dX8_wave_2 (fun H locs V => ?_)
  refine lv_iload_n hx hb dX8_wave_5 rfl (lv_at hl 1 rfl) ?_
  refine lv_i2l (v := le.toInt64) hx hb dX8_wave_6 rfl ?_
  refine lv_lconst (v := (nI 1).toInt64) hx hb dX8_wave_7 (by decide +kernel) ?_
  refine lv_ldc2 (v := (12)) hx hb hown (hts _ w_1228) dX8_wave_8 ?_
  refine g_vl (y := (nI 12).toInt64) (by decide +kernel) ?_
  refine g_callSU (nA := 3) hC V hl.1 (m_within l D T le (nI 1) (nI 12)) w_1023 w_1024 w_9 w_1025 (by decide +kernel) rfl ⟨(Nat.le_of_ble_eq_true rfl), (Nat.le_of_ble_eq_true rfl)⟩ [] rfl rfl (Nat.le_of_ble_eq_true rfl) dX8_wave_11 ⟨(Nat.le_of_ble_eq_true rfl), (Nat.le_of_ble_eq_true rfl)⟩ rfl (fun r w1 H locs hQ V => ?_)
  rcases hQ with ⟨rfl, rfl, f_1, f_2⟩ | ⟨rfl, rfl, f_3⟩
  · have V : gW D T A s [(o, .inr (8, [.int (nI 0), .ref g1, .ref g2, .ref g3, .ref g4, .int (nI tp), .int w6, .int w7, .int w8, .int w9, .int w10, .int w11, .int w12, .int w13, .int w14, .ref g15, .int w16, .ref g17, .int w18, .int w19, .ref g20, .int w21, .ref g22, .ref g23, .ref g24, .int w25, .int w26, .int w27, .ref g28, .ref g29, .int w30, .ref g31, .ref g32, .ref g33])), (g1, .inl (T 0, 282, .inl fa)), (g15, .inl (T 0, 10, .inl fh)), (g17, .inl (T 0, 94, .inl fk)), (g20, .inl (T 1, 10, .inr (.inl fr)))] H locs := V _ [] rfl rfl rfl (by decide +kernel) rfl
    show W p l e _ s m args below meth c H locs _ _ _ (F0 m 14 ls [.int (nI 1)])
    obtain ⟨i, hi1, hi2, ei⟩ := g_rng (by first | decide | omega) (by first | decide | omega) f_1 f_2
    rw [ei] at hl
    refine lv_if_eq (tgt := 39) hx hb dX8_wave_14 (by decide) (fun c => absurd (show (nI 1) = 0 from c) (by decide +kernel)) (fun _ => ?_)
    refine lv_iload_n hx hb dX8_wave_17 rfl (lv_at hl 2 rfl) ?_
    refine lv_i2l (v := step.toInt64) hx hb dX8_wave_18 rfl ?_
    refine lv_lconst (v := (nI 0).toInt64) hx hb dX8_wave_19 (by decide +kernel) ?_
    refine lv_iload_n hx hb dX8_wave_20 rfl (lv_at hl 1 rfl) ?_
    refine lv_iconst (v := (nI 1)) hx hb dX8_wave_21 (by decide +kernel) ?_
    refine lv_isub hx hb dX8_wave_22 ?_
    refine lv_i2l (v := ((nI i) - (nI 1)).toInt64) hx hb dX8_wave_23 rfl ?_
    refine g_callSU (nA := 3) hC V hl.1 (m_within l D T step (nI 0) ((nI i) - (nI 1))) w_1023 w_1024 w_9 w_1025 (by decide +kernel) rfl ⟨(Nat.le_of_ble_eq_true rfl), (Nat.le_of_ble_eq_true rfl)⟩ [] rfl rfl (Nat.le_of_ble_eq_true rfl) dX8_wave_24 ⟨(Nat.le_of_ble_eq_true rfl), (Nat.le_of_ble_eq_true rfl)⟩ rfl (fun r w1 H locs hQ V => ?_)
    rcases hQ with ⟨rfl, rfl, f_4, f_5⟩ | ⟨rfl, rfl, f_6⟩
    · have V : gW D T A s [(o, .inr (8, [.int (nI 0), .ref g1, .ref g2, .ref g3, .ref g4, .int (nI tp), .int w6, .int w7, .int w8, .int w9, .int w10, .int w11, .int w12, .int w13, .int w14, .ref g15, .int w16, .ref g17, .int w18, .int w19, .ref g20, .int w21, .ref g22, .ref g23, .ref g24, .int w25, .int w26, .int w27, .ref g28, .ref g29, .int w30, .ref g31, .ref g32, .ref g33])), (g1, .inl (T 0, 282, .inl fa)), (g15, .inl (T 0, 10, .inl fh)), (g17, .inl (T 0, 94, .inl fk)), (g20, .inl (T 1, 10, .inr (.inl fr)))] H locs := V _ [] rfl rfl rfl (by decide +kernel) rfl
      show W p l e _ s m args below meth c H locs _ _ _ (F0 m 27 ls [.int (nI 1)])
      refine lv_if_eq (tgt := 39) hx hb dX8_wave_27 (by decide) (fun c => absurd (show (nI 1) = 0 from c) (by decide +kernel)) (fun _ => ?_)
      refine lv_aload_n hx hb dX8_wave_30 rfl (lv_at hl 0 rfl) ?_
      refine lv_iload_n hx hb dX8_wave_31 rfl (lv_at hl 1 rfl) ?_
      refine lv_iload_n hx hb dX8_wave_32 rfl (lv_at hl 2 rfl) ?_
      refine g_callV (wr := []) (nA := 2) hC V hl.1 (m_waves l D T n o i step (nI 0) g1 g2 g3 g4 tp w6 w7 w8 w9 w10 w11 w12 w13 w14 g15 w16 g17 w18 w19 g20 w21 g22 g23 g24 w25 w26 w27 g28 g29 w30 g31 g32 g33 fa fh fk fr h_a ⟨by omega, by omega⟩) w_1245 w_1247 w_s66 w_9 w_1248 (by decide +kernel) rfl ⟨(Nat.le_of_ble_eq_true rfl), (Nat.le_of_ble_eq_true rfl)⟩ 0 (ci := 8) rfl rfl [0, 1, 2, 3, 4] [] rfl rfl rfl rfl (by decide) (Nat.le_of_ble_eq_true rfl) dX8_wave_33 ⟨(Nat.le_of_ble_eq_true rfl), (Nat.le_of_ble_eq_true rfl)⟩ rfl (fun r w1 H locs hQ V => ?_)
      obtain ⟨z_7, wq_8, gh_9, gk_10, gr_11, rfl, rfl⟩ := hQ
      have V : gW D T A s [(o, .inr (8, [.int (nI 0), .ref g1, .ref g2, .ref g3, .ref g4, .int (nI tp), .int w6, .int w7, .int w8, .int w9, .int w10, .int w11, .int w12, .int w13, .int w14, .ref g15, .int w16, .ref g17, .int w18, .int w19, .ref g20, .int wq_8, .ref g22, .ref g23, .ref g24, .int w25, .int w26, .int w27, .ref g28, .ref g29, .int w30, .ref g31, .ref g32, .ref g33])), (g1, .inl (T 0, 282, .inl fa)), (g15, .inl (T 0, 10, .inl gh_9)), (g17, .inl (T 0, 94, .inl gk_10)), (g20, .inl (T 1, 10, .inr (.inl gr_11)))] H locs := V
      show W p l e _ s m args below meth c H locs _ _ _ (F0 m 36 ls [.int z_7])
      refine lv_goto (tgt := 41) hx hb dX8_wave_36 (by decide) ?_
      exact g_iret (Qr := (q_m_wave T n o le step w0 g1 g2 g3 g4 tp w6 w7 w8 w9 w10 w11 w12 w13 w14 g15 w16 g17 w18 w19 g20 w21 g22 g23 g24 w25 w26 w27 g28 g29 w30 g31 g32 g33 fa fh fk fr)) hC V ⟨(Nat.le_of_ble_eq_true rfl), (Nat.le_of_ble_eq_true rfl)⟩ ⟨z_7, wq_8, gh_9, gk_10, gr_11, rfl, rfl⟩ dX8_wave_41
    · have V : gW D T A s [(o, .inr (8, [.int (nI 0), .ref g1, .ref g2, .ref g3, .ref g4, .int (nI tp), .int w6, .int w7, .int w8, .int w9, .int w10, .int w11, .int w12, .int w13, .int w14, .ref g15, .int w16, .ref g17, .int w18, .int w19, .ref g20, .int w21, .ref g22, .ref g23, .ref g24, .int w25, .int w26, .int w27, .ref g28, .ref g29, .int w30, .ref g31, .ref g32, .ref g33])), (g1, .inl (T 0, 282, .inl fa)), (g15, .inl (T 0, 10, .inl fh)), (g17, .inl (T 0, 94, .inl fk)), (g20, .inl (T 1, 10, .inr (.inl fr)))] H locs := V _ [] rfl rfl rfl (by decide +kernel) rfl
      show W p l e _ s m args below meth c H locs _ _ _ (F0 m 27 ls [.int (nI 0)])
      refine lv_if_eq (tgt := 39) hx hb dX8_wave_27 (by decide) (fun _ => ?_) (fun c => absurd (show (nI 0) = 0 by decide +kernel) c)
      refine lv_bipush (v := (-3)) hx hb dX8_wave_39 (by decide +kernel) ?_
      exact g_iret (Qr := (q_m_wave T n o le step w0 g1 g2 g3 g4 tp w6 w7 w8 w9 w10 w11 w12 w13 w14 g15 w16 g17 w18 w19 g20 w21 g22 g23 g24 w25 w26 w27 g28 g29 w30 g31 g32 g33 fa fh fk fr)) hC V ⟨(Nat.le_of_ble_eq_true rfl), (Nat.le_of_ble_eq_true rfl)⟩ ⟨(-3), w21, fh, fk, fr, rfl, rfl⟩ dX8_wave_41
  · have V : gW D T A s [(o, .inr (8, [.int (nI 0), .ref g1, .ref g2, .ref g3, .ref g4, .int (nI tp), .int w6, .int w7, .int w8, .int w9, .int w10, .int w11, .int w12, .int w13, .int w14, .ref g15, .int w16, .ref g17, .int w18, .int w19, .ref g20, .int w21, .ref g22, .ref g23, .ref g24, .int w25, .int w26, .int w27, .ref g28, .ref g29, .int w30, .ref g31, .ref g32, .ref g33])), (g1, .inl (T 0, 282, .inl fa)), (g15, .inl (T 0, 10, .inl fh)), (g17, .inl (T 0, 94, .inl fk)), (g20, .inl (T 1, 10, .inr (.inl fr)))] H locs := V _ [] rfl rfl rfl (by decide +kernel) rfl
    show W p l e _ s m args below meth c H locs _ _ _ (F0 m 14 ls [.int (nI 0)])
    refine lv_if_eq (tgt := 39) hx hb dX8_wave_14 (by decide) (fun _ => ?_) (fun c => absurd (show (nI 0) = 0 by decide +kernel) c)
    refine lv_bipush (v := (-3)) hx hb dX8_wave_39 (by decide +kernel) ?_
    exact g_iret (Qr := (q_m_wave T n o le step w0 g1 g2 g3 g4 tp w6 w7 w8 w9 w10 w11 w12 w13 w14 g15 w16 g17 w18 w19 g20 w21 g22 g23 g24 w25 w26 w27 g28 g29 w30 g31 g32 g33 fa fh fk fr)) hC V ⟨(Nat.le_of_ble_eq_true rfl), (Nat.le_of_ble_eq_true rfl)⟩ ⟨(-3), w21, fh, fk, fr, rfl, rfl⟩ dX8_wave_41

def q_m_bestWave (T : Nat → ClassId) (n : Nat) (o : Nat) (le : Int32) (w0 : Int32) (g1 : Nat) (g2 : Nat) (g3 : Nat) (g4 : Nat) (tp : Nat) (w6 : Int32) (w7 : Int32) (w8 : Int32) (w9 : Int32) (w10 : Int32) (w11 : Int32) (w12 : Int32) (w13 : Int32) (w14 : Int32) (g15 : Nat) (w16 : Int32) (g17 : Nat) (w18 : Int32) (w19 : Int32) (g20 : Nat) (w21 : Int32) (g22 : Nat) (g23 : Nat) (g24 : Nat) (w25 : Int32) (w26 : Int32) (w27 : Int32) (g28 : Nat) (g29 : Nat) (w30 : Int32) (g31 : Nat) (g32 : Nat) (g33 : Nat) (fa : Nat → Int32) (fh : Nat → Int32) (fk : Nat → Int32) (fr : Nat → Int64) : Option Value → va_W → Prop := fun rr ww => (∃ (z : Int32) (wq : Int32) (gh : Nat → Int32) (gk : Nat → Int32) (gr : Nat → Int64), rr = some (.int z) ∧ ww = [(o, .inr (8, [.int (nI 0), .ref g1, .ref g2, .ref g3, .ref g4, .int (nI tp), .int w6, .int w7, .int w8, .int w9, .int w10, .int w11, .int w12, .int w13, .int w14, .ref g15, .int w16, .ref g17, .int w18, .int w19, .ref g20, .int wq, .ref g22, .ref g23, .ref g24, .int w25, .int w26, .int w27, .ref g28, .ref g29, .int w30, .ref g31, .ref g32, .ref g33])), (g1, .inl (T 0, 282, .inl fa)), (g15, .inl (T 0, 10, .inl gh)), (g17, .inl (T 0, 94, .inl gk)), (g20, .inl (T 1, 10, .inr (.inl gr)))])
set_option maxHeartbeats 4000000 in
set_option maxRecDepth 100000 in
theorem m_bestWave (l : Launch) (D : va_G) (T : Nat → ClassId) (n : Nat) (o : Nat) (le : Int32) (w0 : Int32) (g1 : Nat) (g2 : Nat) (g3 : Nat) (g4 : Nat) (tp : Nat) (w6 : Int32) (w7 : Int32) (w8 : Int32) (w9 : Int32) (w10 : Int32) (w11 : Int32) (w12 : Int32) (w13 : Int32) (w14 : Int32) (g15 : Nat) (w16 : Int32) (g17 : Nat) (w18 : Int32) (w19 : Int32) (g20 : Nat) (w21 : Int32) (g22 : Nat) (g23 : Nat) (g24 : Nat) (w25 : Int32) (w26 : Int32) (w27 : Int32) (g28 : Nat) (g29 : Nat) (w30 : Int32) (g31 : Nat) (g32 : Nat) (g33 : Nat) (fa : Nat → Int32) (fh : Nat → Int32) (fk : Nat → Int32) (fr : Nat → Int64) (h_a : MI n fa) : Ct l yX8_bestWave cX8_bestWave 6 (some .int) 5 0 0 D T [.ref o, .int le] [(o, .inr (8, [.int w0, .ref g1, .ref g2, .ref g3, .ref g4, .int (nI tp), .int w6, .int w7, .int w8, .int w9, .int w10, .int w11, .int w12, .int w13, .int w14, .ref g15, .int w16, .ref g17, .int w18, .int w19, .ref g20, .int w21, .ref g22, .ref g23, .ref g24, .int w25, .int w26, .int w27, .ref g28, .ref g29, .int w30, .ref g31, .ref g32, .ref g33])), (g1, .inl (T 0, 282, .inl fa)), (g15, .inl (T 0, 10, .inl fh)), (g17, .inl (T 0, 94, .inl fk)), (g20, .inl (T 1, 10, .inr (.inl fr)))] (q_m_bestWave T n o le w0 g1 g2 g3 g4 tp w6 w7 w8 w9 w10 w11 w12 w13 w14 g15 w16 g17 w18 w19 g20 w21 g22 g23 g24 w25 w26 w27 g28 g29 w30 g31 g32 g33 fa fh fk fr) := by
  refine Ct.of (cc := cX8_bestWave) (maxL := 6) (ret := (some .int)) (by decide) (Nat.le_of_ble_eq_true rfl) ?_
  intro p e s m args below meth c A ls hC hnm V hl
  obtain ⟨hx, hb, hr, hml, hown, hts, hlocks⟩ := id hC
  generalize hH : s.heap = H at V ⊢
  clear hH
  have hl : lv_has ls 6 [(0, .ref o), (1, .int le)] := hl
  generalize hlo : ([] : List Loc) = locs at V ⊢
  clear hlo
  have ms0 := ms_rf h_a
  have hn10 := h_a.1
  refine lv_aload_n hx hb dX8_bestWave_0 rfl (lv_at hl 0 rfl) ?_
  refine lv_iconst (v := (nI 0)) hx hb dX8_bestWave_1 (by decide +kernel) ?_
  refine g_put hC V (ci := 8) uwX8 tyX8 tyX8_ok nmX8 0 rfl rfl 0 (by decide) w_912 rfl rfl rfl rfl (Nat.le_of_ble_eq_true rfl) (ws' := [(o, .inr (8, [.int (nI 0), .ref g1, .ref g2, .ref g3, .ref g4, .int (nI tp), .int w6, .int w7, .int w8, .int w9, .int w10, .int w11, .int w12, .int w13, .int w14, .ref g15, .int w16, .ref g17, .int w18, .int w19, .ref g20, .int w21, .ref g22, .ref g23, .ref g24, .int w25, .int w26, .int w27, .ref g28, .ref g29, .int w30, .ref g31, .ref g32, .ref g33])), (g1, .inl (T 0, 282, .inl fa)), (g15, .inl (T 0, 10, .inl fh)), (g17, .inl (T 0, 94, .inl fk)), (g20, .inl (T 1, 10, .inr (.inl fr)))]) rfl dX8_bestWave_2 (fun H locs V => ?_)
  refine lv_iload_n hx hb dX8_bestWave_5 rfl (lv_at hl 1 rfl) ?_
  refine lv_i2l (v := le.toInt64) hx hb dX8_bestWave_6 rfl ?_
  refine lv_lconst (v := (nI 1).toInt64) hx hb dX8_bestWave_7 (by decide +kernel) ?_
  refine lv_ldc2 (v := (12)) hx hb hown (hts _ w_1228) dX8_bestWave_8 ?_
  refine g_vl (y := (nI 12).toInt64) (by decide +kernel) ?_
  refine g_callSU (nA := 3) hC V hl.1 (m_within l D T le (nI 1) (nI 12)) w_1023 w_1024 w_9 w_1025 (by decide +kernel) rfl ⟨(Nat.le_of_ble_eq_true rfl), (Nat.le_of_ble_eq_true rfl)⟩ [] rfl rfl (Nat.le_of_ble_eq_true rfl) dX8_bestWave_11 ⟨(Nat.le_of_ble_eq_true rfl), (Nat.le_of_ble_eq_true rfl)⟩ rfl (fun r w1 H locs hQ V => ?_)
  rcases hQ with ⟨rfl, rfl, f_1, f_2⟩ | ⟨rfl, rfl, f_3⟩
  · have V : gW D T A s [(o, .inr (8, [.int (nI 0), .ref g1, .ref g2, .ref g3, .ref g4, .int (nI tp), .int w6, .int w7, .int w8, .int w9, .int w10, .int w11, .int w12, .int w13, .int w14, .ref g15, .int w16, .ref g17, .int w18, .int w19, .ref g20, .int w21, .ref g22, .ref g23, .ref g24, .int w25, .int w26, .int w27, .ref g28, .ref g29, .int w30, .ref g31, .ref g32, .ref g33])), (g1, .inl (T 0, 282, .inl fa)), (g15, .inl (T 0, 10, .inl fh)), (g17, .inl (T 0, 94, .inl fk)), (g20, .inl (T 1, 10, .inr (.inl fr)))] H locs := V _ [] rfl rfl rfl (by decide +kernel) rfl
    show W p l e _ s m args below meth c H locs _ _ _ (F0 m 14 ls [.int (nI 1)])
    obtain ⟨i, hi1, hi2, ei⟩ := g_rng (by first | decide | omega) (by first | decide | omega) f_1 f_2
    rw [ei] at hl
    refine lv_if_ne (tgt := 20) hx hb dX8_bestWave_14 (by decide) (fun _ => ?_) (fun c => absurd (show (nI 1) = 0 from c) (by decide +kernel))
    refine lv_iconst (v := (nI 0)) hx hb dX8_bestWave_20 (by decide +kernel) ?_
    refine lv_istore_n (lv' := [(2, .int (nI 0)), (0, .ref o), (1, .int (nI i))]) hx hb dX8_bestWave_21 rfl hl (by decide) rfl (fun ls hl => ?_)
    refine lv_iconst (v := (nI 0)) hx hb dX8_bestWave_22 (by decide +kernel) ?_
    refine lv_istore_n (lv' := [(3, .int (nI 0)), (2, .int (nI 0)), (0, .ref o), (1, .int (nI i))]) hx hb dX8_bestWave_23 rfl hl (by decide) rfl (fun ls hl => ?_)
    refine lv_iconst (v := (nI 0)) hx hb dX8_bestWave_24 (by decide +kernel) ?_
    refine lv_istore (lv' := [(4, .int (nI 0)), (3, .int (nI 0)), (2, .int (nI 0)), (0, .ref o), (1, .int (nI i))]) hx hb dX8_bestWave_25 hl (by decide) rfl (fun ls hl => ?_)
    have L_4 : ∀ (fu : Nat) (k27 : Nat) (x27_3 : Int32) (x27_2 : Int32) (wv : Int32) (ga_ : Nat → Int32) (gb_ : Nat → Int32) (gc_ : Nat → Int64), k27 ≤ i → i - k27 < fu → ∀ (H : Heap) (locs : List Loc) (ls : Array Slot), gW D T A s [(o, .inr (8, [.int (nI 0), .ref g1, .ref g2, .ref g3, .ref g4, .int (nI tp), .int w6, .int w7, .int w8, .int w9, .int w10, .int w11, .int w12, .int w13, .int w14, .ref g15, .int w16, .ref g17, .int w18, .int w19, .ref g20, .int wv, .ref g22, .ref g23, .ref g24, .int w25, .int w26, .int w27, .ref g28, .ref g29, .int w30, .ref g31, .ref g32, .ref g33])), (g1, .inl (T 0, 282, .inl fa)), (g15, .inl (T 0, 10, .inl ga_)), (g17, .inl (T 0, 94, .inl gb_)), (g20, .inl (T 1, 10, .inr (.inl gc_)))] H locs → lv_has ls 6 [(4, .int (nI k27)), (3, .int x27_3), (2, .int x27_2), (0, .ref o), (1, .int (nI i))] → W p l e (rmD 5 0 0) s m args below meth c H locs 0 0 (MQ below (gQ D A (q_m_bestWave T n o le w0 g1 g2 g3 g4 tp w6 w7 w8 w9 w10 w11 w12 w13 w14 g15 w16 g17 w18 w19 g20 w21 g22 g23 g24 w25 w26 w27 g28 g29 w30 g31 g32 g33 fa fh fk fr)) args s 0 0 A) (F0 m 27 ls []) := by
      intro fu_27
      induction fu_27 with
      | zero => intro k27 x27_3 x27_2 wv ga_ gb_ gc_ hk27 hmu; exact absurd hmu (Nat.not_lt_zero _)
      | succ fu_27 ih_27 =>
        intro k27 x27_3 x27_2 wv ga_ gb_ gc_ hk27 hmu_27 H locs ls V hl
        refine lv_iload hx hb dX8_bestWave_27 (lv_at hl 0 rfl) ?_
        refine lv_iload_n hx hb dX8_bestWave_29 rfl (lv_at hl 4 rfl) ?_
        refine lv_icmp_ge (tgt := 72) hx hb dX8_bestWave_30 (by decide) (fun c_5 => ?_) (fun c_5 => ?_)
        · skip
          have c_5 := b_le (by omega) (by omega) c_5
          refine lv_iload_n hx hb dX8_bestWave_72 rfl (lv_at hl 2 rfl) ?_
          exact g_iret (Qr := (q_m_bestWave T n o le w0 g1 g2 g3 g4 tp w6 w7 w8 w9 w10 w11 w12 w13 w14 g15 w16 g17 w18 w19 g20 w21 g22 g23 g24 w25 w26 w27 g28 g29 w30 g31 g32 g33 fa fh fk fr)) hC V ⟨(Nat.le_of_ble_eq_true rfl), (Nat.le_of_ble_eq_true rfl)⟩ ⟨x27_2, wv, ga_, gb_, gc_, rfl, rfl⟩ dX8_bestWave_73
        · skip
          have c_5 := b_nle (by omega) (by omega) c_5
          refine lv_aload_n hx hb dX8_bestWave_33 rfl (lv_at hl 3 rfl) ?_
          refine lv_iload_n hx hb dX8_bestWave_34 rfl (lv_at hl 4 rfl) ?_
          refine lv_iload hx hb dX8_bestWave_35 (lv_at hl 0 rfl) ?_
          refine g_callV (wr := []) (nA := 2) hC V hl.1 (m_waves l D T n o i (nI k27) (nI 0) g1 g2 g3 g4 tp w6 w7 w8 w9 w10 w11 w12 w13 w14 g15 w16 g17 w18 w19 g20 wv g22 g23 g24 w25 w26 w27 g28 g29 w30 g31 g32 g33 fa ga_ gb_ gc_ h_a ⟨by omega, by omega⟩) w_1245 w_1247 w_s66 w_9 w_1248 (by decide +kernel) rfl ⟨(Nat.le_of_ble_eq_true rfl), (Nat.le_of_ble_eq_true rfl)⟩ 0 (ci := 8) rfl rfl [0, 1, 2, 3, 4] [] rfl rfl rfl rfl (by decide) (Nat.le_of_ble_eq_true rfl) dX8_bestWave_37 ⟨(Nat.le_of_ble_eq_true rfl), (Nat.le_of_ble_eq_true rfl)⟩ rfl (fun r w1 H locs hQ V => ?_)
          obtain ⟨z_6, wq_7, gh_8, gk_9, gr_10, rfl, rfl⟩ := hQ
          have V : gW D T A s [(o, .inr (8, [.int (nI 0), .ref g1, .ref g2, .ref g3, .ref g4, .int (nI tp), .int w6, .int w7, .int w8, .int w9, .int w10, .int w11, .int w12, .int w13, .int w14, .ref g15, .int w16, .ref g17, .int w18, .int w19, .ref g20, .int wq_7, .ref g22, .ref g23, .ref g24, .int w25, .int w26, .int w27, .ref g28, .ref g29, .int w30, .ref g31, .ref g32, .ref g33])), (g1, .inl (T 0, 282, .inl fa)), (g15, .inl (T 0, 10, .inl gh_8)), (g17, .inl (T 0, 94, .inl gk_9)), (g20, .inl (T 1, 10, .inr (.inl gr_10)))] H locs := V
          show W p l e _ s m args below meth c H locs _ _ _ (F0 m 40 ls [.int z_6])
          refine lv_istore (lv' := [(5, .int z_6), (4, .int (nI k27)), (3, .int x27_3), (2, .int x27_2), (0, .ref o), (1, .int (nI i))]) hx hb dX8_bestWave_40 hl (by decide) rfl (fun ls hl => ?_)
          refine lv_iload hx hb dX8_bestWave_42 (lv_at hl 0 rfl) ?_
          refine lv_iconst (v := (-1)) hx hb dX8_bestWave_44 (by decide +kernel) ?_
          refine lv_icmp_ne (tgt := 51) hx hb dX8_bestWave_45 (by decide) (fun c_11 => ?_) (fun c_11 => ?_)
          · skip
            refine lv_iload hx hb dX8_bestWave_51 (lv_at hl 0 rfl) ?_
            refine lv_iload_n hx hb dX8_bestWave_53 rfl (lv_at hl 2 rfl) ?_
            refine lv_icmp_gt (tgt := 60) hx hb dX8_bestWave_54 (by decide) (fun c_12 => ?_) (fun c_12 => ?_)
            · skip
              refine lv_iload hx hb dX8_bestWave_60 (lv_at hl 0 rfl) ?_
              refine lv_istore_n (lv' := [(3, .int z_6), (5, .int z_6), (4, .int (nI k27)), (2, .int x27_2), (0, .ref o), (1, .int (nI i))]) hx hb dX8_bestWave_62 rfl hl (by decide) rfl (fun ls hl => ?_)
              refine lv_iload hx hb dX8_bestWave_63 (lv_at hl 2 rfl) ?_
              refine lv_istore_n (lv' := [(2, .int (nI k27)), (3, .int z_6), (5, .int z_6), (4, .int (nI k27)), (0, .ref o), (1, .int (nI i))]) hx hb dX8_bestWave_65 rfl hl (by decide) rfl (fun ls hl => ?_)
              refine lv_iinc (v := (nI (k27 + 1))) (lv' := [(4, .int (nI (k27 + 1))), (2, .int (nI k27)), (3, .int z_6), (5, .int z_6), (0, .ref o), (1, .int (nI i))]) hx hb dX8_bestWave_66 hl (k := 3) rfl (nI_1 _) (by decide) rfl (fun ls hl => ?_)
              refine lv_goto (tgt := 27) hx hb dX8_bestWave_69 (by decide) ?_
              exact ih_27 (k27 + 1) z_6 (nI k27) wq_7 gh_8 gk_9 gr_10 (by omega) (by omega) _ _ _ V (lv_sub hl [0, 2, 1, 4, 5] rfl)
            · skip
              refine lv_goto (tgt := 66) hx hb dX8_bestWave_57 (by decide) ?_
              refine lv_iinc (v := (nI (k27 + 1))) (lv' := [(4, .int (nI (k27 + 1))), (5, .int z_6), (3, .int x27_3), (2, .int x27_2), (0, .ref o), (1, .int (nI i))]) hx hb dX8_bestWave_66 hl (k := 1) rfl (nI_1 _) (by decide) rfl (fun ls hl => ?_)
              refine lv_goto (tgt := 27) hx hb dX8_bestWave_69 (by decide) ?_
              exact ih_27 (k27 + 1) x27_3 x27_2 wq_7 gh_8 gk_9 gr_10 (by omega) (by omega) _ _ _ V (lv_sub hl [0, 2, 3, 4, 5] rfl)
          · skip
            refine lv_iload hx hb dX8_bestWave_48 (lv_at hl 1 rfl) ?_
            exact g_iret (Qr := (q_m_bestWave T n o le w0 g1 g2 g3 g4 tp w6 w7 w8 w9 w10 w11 w12 w13 w14 g15 w16 g17 w18 w19 g20 w21 g22 g23 g24 w25 w26 w27 g28 g29 w30 g31 g32 g33 fa fh fk fr)) hC V ⟨(Nat.le_of_ble_eq_true rfl), (Nat.le_of_ble_eq_true rfl)⟩ ⟨(nI k27), wq_7, gh_8, gk_9, gr_10, rfl, rfl⟩ dX8_bestWave_50
    exact L_4 _ 0 (nI 0) (nI 0) w21 fh fk fr (by omega) (Nat.lt_succ_self _) _ _ _ V (lv_sub hl [0, 1, 2, 3, 4] rfl)
  · have V : gW D T A s [(o, .inr (8, [.int (nI 0), .ref g1, .ref g2, .ref g3, .ref g4, .int (nI tp), .int w6, .int w7, .int w8, .int w9, .int w10, .int w11, .int w12, .int w13, .int w14, .ref g15, .int w16, .ref g17, .int w18, .int w19, .ref g20, .int w21, .ref g22, .ref g23, .ref g24, .int w25, .int w26, .int w27, .ref g28, .ref g29, .int w30, .ref g31, .ref g32, .ref g33])), (g1, .inl (T 0, 282, .inl fa)), (g15, .inl (T 0, 10, .inl fh)), (g17, .inl (T 0, 94, .inl fk)), (g20, .inl (T 1, 10, .inr (.inl fr)))] H locs := V _ [] rfl rfl rfl (by decide +kernel) rfl
    show W p l e _ s m args below meth c H locs _ _ _ (F0 m 14 ls [.int (nI 0)])
    refine lv_if_ne (tgt := 20) hx hb dX8_bestWave_14 (by decide) (fun c => absurd (show (nI 0) = 0 by decide +kernel) c) (fun _ => ?_)
    refine lv_bipush (v := (-3)) hx hb dX8_bestWave_17 (by decide +kernel) ?_
    exact g_iret (Qr := (q_m_bestWave T n o le w0 g1 g2 g3 g4 tp w6 w7 w8 w9 w10 w11 w12 w13 w14 g15 w16 g17 w18 w19 g20 w21 g22 g23 g24 w25 w26 w27 g28 g29 w30 g31 g32 g33 fa fh fk fr)) hC V ⟨(Nat.le_of_ble_eq_true rfl), (Nat.le_of_ble_eq_true rfl)⟩ ⟨(-3), w21, fh, fk, fr, rfl, rfl⟩ dX8_bestWave_19

theorem w_ten {w : Int32} {n : Nat} (hn : n ≤ 10) (h1 : ¬ w < nI 10) (h2 : ¬ nI (9 + n) < w) : ∃ j, j < n ∧ w - nI 10 = nI j := by
  obtain ⟨k, k1, k2, e⟩ := g_rng (by decide) (by omega) h1 h2
  exact ⟨k - 10, by omega, by rw [e, nI_sub (by omega)]⟩

def q_m_bestRound (T : Nat → ClassId) (n : Nat) (o : Nat) (le : Int32) (wh : Int32) (w0 : Int32) (g1 : Nat) (g2 : Nat) (g3 : Nat) (g4 : Nat) (tp : Nat) (w6 : Int32) (w7 : Int32) (w8 : Int32) (w9 : Int32) (w10 : Int32) (w11 : Int32) (w12 : Int32) (w13 : Int32) (w14 : Int32) (g15 : Nat) (w16 : Int32) (g17 : Nat) (w18 : Int32) (w19 : Int32) (g20 : Nat) (w21 : Int32) (g22 : Nat) (g23 : Nat) (g24 : Nat) (w25 : Int32) (w26 : Int32) (w27 : Int32) (g28 : Nat) (g29 : Nat) (w30 : Int32) (g31 : Nat) (g32 : Nat) (g33 : Nat) (fa : Nat → Int32) (fh : Nat → Int32) (fk : Nat → Int32) (fr : Nat → Int64) (fb : Nat → Int64) : Option Value → va_W → Prop := fun rr ww => (∃ (z : Int32) (wq : Int32) (gh : Nat → Int32) (gk : Nat → Int32) (gr : Nat → Int64) (gs : Nat → Int64), rr = some (.int z) ∧ ww = [(o, .inr (8, [.int (nI 0), .ref g1, .ref g2, .ref g3, .ref g4, .int (nI tp), .int w6, .int w7, .int w8, .int w9, .int w10, .int w11, .int w12, .int w13, .int w14, .ref g15, .int w16, .ref g17, .int w18, .int w19, .ref g20, .int wq, .ref g22, .ref g23, .ref g24, .int w25, .int w26, .int w27, .ref g28, .ref g29, .int w30, .ref g31, .ref g32, .ref g33])), (g1, .inl (T 0, 282, .inl fa)), (g15, .inl (T 0, 10, .inl gh)), (g17, .inl (T 0, 94, .inl gk)), (g20, .inl (T 1, 10, .inr (.inl gr))), (g22, .inl (T 1, 10, .inr (.inl gs)))])
set_option maxHeartbeats 4000000 in
set_option maxRecDepth 100000 in
theorem m_bestRound (l : Launch) (D : va_G) (T : Nat → ClassId) (n : Nat) (o : Nat) (le : Int32) (wh : Int32) (w0 : Int32) (g1 : Nat) (g2 : Nat) (g3 : Nat) (g4 : Nat) (tp : Nat) (w6 : Int32) (w7 : Int32) (w8 : Int32) (w9 : Int32) (w10 : Int32) (w11 : Int32) (w12 : Int32) (w13 : Int32) (w14 : Int32) (g15 : Nat) (w16 : Int32) (g17 : Nat) (w18 : Int32) (w19 : Int32) (g20 : Nat) (w21 : Int32) (g22 : Nat) (g23 : Nat) (g24 : Nat) (w25 : Int32) (w26 : Int32) (w27 : Int32) (g28 : Nat) (g29 : Nat) (w30 : Int32) (g31 : Nat) (g32 : Nat) (g33 : Nat) (fa : Nat → Int32) (fh : Nat → Int32) (fk : Nat → Int32) (fr : Nat → Int64) (fb : Nat → Int64) (h_a : MI n fa) : Ct l yX8_bestRound cX8_bestRound 7 (some .int) 4 0 0 D T [.ref o, .int le, .int wh] [(o, .inr (8, [.int w0, .ref g1, .ref g2, .ref g3, .ref g4, .int (nI tp), .int w6, .int w7, .int w8, .int w9, .int w10, .int w11, .int w12, .int w13, .int w14, .ref g15, .int w16, .ref g17, .int w18, .int w19, .ref g20, .int w21, .ref g22, .ref g23, .ref g24, .int w25, .int w26, .int w27, .ref g28, .ref g29, .int w30, .ref g31, .ref g32, .ref g33])), (g1, .inl (T 0, 282, .inl fa)), (g15, .inl (T 0, 10, .inl fh)), (g17, .inl (T 0, 94, .inl fk)), (g20, .inl (T 1, 10, .inr (.inl fr))), (g22, .inl (T 1, 10, .inr (.inl fb)))] (q_m_bestRound T n o le wh w0 g1 g2 g3 g4 tp w6 w7 w8 w9 w10 w11 w12 w13 w14 g15 w16 g17 w18 w19 g20 w21 g22 g23 g24 w25 w26 w27 g28 g29 w30 g31 g32 g33 fa fh fk fr fb) := by
  refine Ct.of (cc := cX8_bestRound) (maxL := 7) (ret := (some .int)) (by decide) (Nat.le_of_ble_eq_true rfl) ?_
  intro p e s m args below meth c A ls hC hnm V hl
  obtain ⟨hx, hb, hr, hml, hown, hts, hlocks⟩ := id hC
  generalize hH : s.heap = H at V ⊢
  clear hH
  have hl : lv_has ls 7 [(0, .ref o), (1, .int le), (2, .int wh)] := hl
  generalize hlo : ([] : List Loc) = locs at V ⊢
  clear hlo
  have ms0 := ms_rf h_a
  have hn10 := h_a.1
  refine lv_aload_n hx hb dX8_bestRound_0 rfl (lv_at hl 0 rfl) ?_
  refine lv_iconst (v := (nI 0)) hx hb dX8_bestRound_1 (by decide +kernel) ?_
  refine g_put hC V (ci := 8) uwX8 tyX8 tyX8_ok nmX8 0 rfl rfl 0 (by decide) w_912 rfl rfl rfl rfl (Nat.le_of_ble_eq_true rfl) (ws' := [(o, .inr (8, [.int (nI 0), .ref g1, .ref g2, .ref g3, .ref g4, .int (nI tp), .int w6, .int w7, .int w8, .int w9, .int w10, .int w11, .int w12, .int w13, .int w14, .ref g15, .int w16, .ref g17, .int w18, .int w19, .ref g20, .int w21, .ref g22, .ref g23, .ref g24, .int w25, .int w26, .int w27, .ref g28, .ref g29, .int w30, .ref g31, .ref g32, .ref g33])), (g1, .inl (T 0, 282, .inl fa)), (g15, .inl (T 0, 10, .inl fh)), (g17, .inl (T 0, 94, .inl fk)), (g20, .inl (T 1, 10, .inr (.inl fr))), (g22, .inl (T 1, 10, .inr (.inl fb)))]) rfl dX8_bestRound_2 (fun H locs V => ?_)
  refine lv_iload_n hx hb dX8_bestRound_5 rfl (lv_at hl 2 rfl) ?_
  refine lv_if_eq (tgt := 33) hx hb dX8_bestRound_6 (by decide) (fun c_1 => ?_) (fun c_1 => ?_)
  · skip
    refine lv_iload_n hx hb dX8_bestRound_33 rfl (lv_at hl 1 rfl) ?_
    refine lv_i2l (v := le.toInt64) hx hb dX8_bestRound_34 rfl ?_
    refine lv_lconst (v := (nI 1).toInt64) hx hb dX8_bestRound_35 (by decide +kernel) ?_
    refine lv_ldc2 (v := (10)) hx hb hown (hts _ w_1257) dX8_bestRound_36 ?_
    refine g_vl (y := (nI 10).toInt64) (by decide +kernel) ?_
    refine g_callSU (nA := 3) hC V hl.1 (m_within l D T le (nI 1) (nI 10)) w_1023 w_1024 w_9 w_1025 (by decide +kernel) rfl ⟨(Nat.le_of_ble_eq_true rfl), (Nat.le_of_ble_eq_true rfl)⟩ [] rfl rfl (Nat.le_of_ble_eq_true rfl) dX8_bestRound_39 ⟨(Nat.le_of_ble_eq_true rfl), (Nat.le_of_ble_eq_true rfl)⟩ rfl (fun r w1 H locs hQ V => ?_)
    rcases hQ with ⟨rfl, rfl, f_2, f_3⟩ | ⟨rfl, rfl, f_4⟩
    · have V : gW D T A s [(o, .inr (8, [.int (nI 0), .ref g1, .ref g2, .ref g3, .ref g4, .int (nI tp), .int w6, .int w7, .int w8, .int w9, .int w10, .int w11, .int w12, .int w13, .int w14, .ref g15, .int w16, .ref g17, .int w18, .int w19, .ref g20, .int w21, .ref g22, .ref g23, .ref g24, .int w25, .int w26, .int w27, .ref g28, .ref g29, .int w30, .ref g31, .ref g32, .ref g33])), (g1, .inl (T 0, 282, .inl fa)), (g15, .inl (T 0, 10, .inl fh)), (g17, .inl (T 0, 94, .inl fk)), (g20, .inl (T 1, 10, .inr (.inl fr))), (g22, .inl (T 1, 10, .inr (.inl fb)))] H locs := V _ [] rfl rfl rfl (by decide +kernel) rfl
      show W p l e _ s m args below meth c H locs _ _ _ (F0 m 42 ls [.int (nI 1)])
      obtain ⟨i, hi1, hi2, ei⟩ := g_rng (by first | decide | omega) (by first | decide | omega) f_2 f_3
      rw [ei] at hl
      have hmul : n * i ≤ 10 * 10 := Nat.mul_le_mul hn10 (by omega)
      refine lv_if_ne (tgt := 48) hx hb dX8_bestRound_42 (by decide) (fun _ => ?_) (fun c => absurd (show (nI 1) = 0 from c) (by decide +kernel))
      refine lv_aload_n hx hb dX8_bestRound_48 rfl (lv_at hl 0 rfl) ?_
      refine g_get hC V (ci := 8) uwX8 0 rfl rfl 1 (by decide) w_913 rfl rfl dX8_bestRound_49 ?_
      refine lv_iconst (v := (nI 0)) hx hb dX8_bestRound_52 (by decide +kernel) ?_
      refine g_iald hC V 1 rfl (vp_in_nI (by decide) (by decide)) (v := (nI n)) (by rw [nI_clamp (by decide)]; first | rfl | exact h_a.2.1) dX8_bestRound_53 ?_
      refine lv_iload_n hx hb dX8_bestRound_54 rfl (lv_at hl 1 rfl) ?_
      refine lv_imul hx hb dX8_bestRound_55 ?_
      refine g_vi (y := (nI (n * i))) (pk_mul _ _) ?_
      refine lv_bipush (v := (nI 10)) hx hb dX8_bestRound_56 (by decide +kernel) ?_
      refine lv_icmp_le (tgt := 64) hx hb dX8_bestRound_58 (by decide) (fun c_5 => ?_) (fun c_5 => ?_)
      · skip
        have c_5 := b_le (by omega) (by omega) c_5
        have hpw := pw10 c_5
        refine lv_iconst (v := (-1)) hx hb dX8_bestRound_64 (by decide +kernel) ?_
        refine lv_istore_n (lv' := [(3, .int (-1)), (0, .ref o), (1, .int (nI i)), (2, .int wh)]) hx hb dX8_bestRound_65 rfl hl (by decide) rfl (fun ls hl => ?_)
        refine lv_iconst (v := (nI 0)) hx hb dX8_bestRound_66 (by decide +kernel) ?_
        refine lv_istore (lv' := [(4, .int (nI 0)), (3, .int (-1)), (0, .ref o), (1, .int (nI i)), (2, .int wh)]) hx hb dX8_bestRound_67 hl (by decide) rfl (fun ls hl => ?_)
        have L_6 : ∀ (fu : Nat) (k69 : Nat) (x69_3 : Int32) (wv : Int32) (ga_ : Nat → Int32) (gb_ : Nat → Int32) (gc_ : Nat → Int64) (gd_ : Nat → Int64), k69 ≤ 2 ^ (n * i) → 2 ^ (n * i) - k69 < fu → ∀ (H : Heap) (locs : List Loc) (ls : Array Slot), gW D T A s [(o, .inr (8, [.int (nI 0), .ref g1, .ref g2, .ref g3, .ref g4, .int (nI tp), .int w6, .int w7, .int w8, .int w9, .int w10, .int w11, .int w12, .int w13, .int w14, .ref g15, .int w16, .ref g17, .int w18, .int w19, .ref g20, .int wv, .ref g22, .ref g23, .ref g24, .int w25, .int w26, .int w27, .ref g28, .ref g29, .int w30, .ref g31, .ref g32, .ref g33])), (g1, .inl (T 0, 282, .inl fa)), (g15, .inl (T 0, 10, .inl ga_)), (g17, .inl (T 0, 94, .inl gb_)), (g20, .inl (T 1, 10, .inr (.inl gc_))), (g22, .inl (T 1, 10, .inr (.inl gd_)))] H locs → lv_has ls 7 [(4, .int (nI k69)), (3, .int x69_3), (0, .ref o), (1, .int (nI i)), (2, .int wh)] → W p l e (rmD 4 0 0) s m args below meth c H locs 0 0 (MQ below (gQ D A (q_m_bestRound T n o le wh w0 g1 g2 g3 g4 tp w6 w7 w8 w9 w10 w11 w12 w13 w14 g15 w16 g17 w18 w19 g20 w21 g22 g23 g24 w25 w26 w27 g28 g29 w30 g31 g32 g33 fa fh fk fr fb)) args s 0 0 A) (F0 m 69 ls []) := by
          intro fu_69
          induction fu_69 with
          | zero => intro k69 x69_3 wv ga_ gb_ gc_ gd_ hk69 hmu; exact absurd hmu (Nat.not_lt_zero _)
          | succ fu_69 ih_69 =>
            intro k69 x69_3 wv ga_ gb_ gc_ gd_ hk69 hmu_69 H locs ls V hl
            refine lv_iload hx hb dX8_bestRound_69 (lv_at hl 0 rfl) ?_
            refine lv_iconst (v := (nI 1)) hx hb dX8_bestRound_71 (by decide +kernel) ?_
            refine lv_aload_n hx hb dX8_bestRound_72 rfl (lv_at hl 2 rfl) ?_
            refine g_get hC V (ci := 8) uwX8 0 rfl rfl 1 (by decide) w_913 rfl rfl dX8_bestRound_73 ?_
            refine lv_iconst (v := (nI 0)) hx hb dX8_bestRound_76 (by decide +kernel) ?_
            refine g_iald hC V 1 rfl (vp_in_nI (by decide) (by decide)) (v := (nI n)) (by rw [nI_clamp (by decide)]; first | rfl | exact h_a.2.1) dX8_bestRound_77 ?_
            refine lv_iload_n hx hb dX8_bestRound_78 rfl (lv_at hl 3 rfl) ?_
            refine lv_imul hx hb dX8_bestRound_79 ?_
            refine g_vi (y := (nI (n * i))) (pk_mul _ _) ?_
            refine lv_ishl hx hb dX8_bestRound_80 ?_
            refine g_vi (y := (nI (2 ^ (n * i)))) (shl_pow (by omega)) ?_
            refine lv_icmp_ge (tgt := 211) hx hb dX8_bestRound_81 (by decide) (fun c_7 => ?_) (fun c_7 => ?_)
            · skip
              have c_7 := b_le (by omega) (by omega) c_7
              refine lv_iload_n hx hb dX8_bestRound_211 rfl (lv_at hl 1 rfl) ?_
              refine lv_iconst (v := (-1)) hx hb dX8_bestRound_212 (by decide +kernel) ?_
              refine lv_icmp_eq (tgt := 220) hx hb dX8_bestRound_213 (by decide) (fun c_8 => ?_) (fun c_8 => ?_)
              · skip
                refine lv_iload_n hx hb dX8_bestRound_220 rfl (lv_at hl 1 rfl) ?_
                refine lv_goto (tgt := 234) hx hb dX8_bestRound_221 (by decide) ?_
                exact g_iret (Qr := (q_m_bestRound T n o le wh w0 g1 g2 g3 g4 tp w6 w7 w8 w9 w10 w11 w12 w13 w14 g15 w16 g17 w18 w19 g20 w21 g22 g23 g24 w25 w26 w27 g28 g29 w30 g31 g32 g33 fa fh fk fr fb)) hC V ⟨(Nat.le_of_ble_eq_true rfl), (Nat.le_of_ble_eq_true rfl)⟩ ⟨x69_3, wv, ga_, gb_, gc_, gd_, rfl, rfl⟩ dX8_bestRound_234
              · skip
                refine lv_iload_n hx hb dX8_bestRound_216 rfl (lv_at hl 4 rfl) ?_
                refine lv_if_ne (tgt := 224) hx hb dX8_bestRound_217 (by decide) (fun c_9 => ?_) (fun c_9 => ?_)
                · skip
                  refine lv_aload_n hx hb dX8_bestRound_224 rfl (lv_at hl 2 rfl) ?_
                  refine g_get hC V (ci := 8) uwX8 0 rfl rfl 22 (by decide) w_934 rfl rfl dX8_bestRound_225 ?_
                  refine lv_iload_n hx hb dX8_bestRound_228 rfl (lv_at hl 4 rfl) ?_
                  refine lv_bipush (v := (nI 10)) hx hb dX8_bestRound_229 (by decide +kernel) ?_
                  refine lv_isub hx hb dX8_bestRound_231 ?_
                  exact absurd (by assumption) ‹¬ wh = 0›
                · skip
                  refine lv_iload_n hx hb dX8_bestRound_220 rfl (lv_at hl 1 rfl) ?_
                  refine lv_goto (tgt := 234) hx hb dX8_bestRound_221 (by decide) ?_
                  exact g_iret (Qr := (q_m_bestRound T n o le wh w0 g1 g2 g3 g4 tp w6 w7 w8 w9 w10 w11 w12 w13 w14 g15 w16 g17 w18 w19 g20 w21 g22 g23 g24 w25 w26 w27 g28 g29 w30 g31 g32 g33 fa fh fk fr fb)) hC V ⟨(Nat.le_of_ble_eq_true rfl), (Nat.le_of_ble_eq_true rfl)⟩ ⟨x69_3, wv, ga_, gb_, gc_, gd_, rfl, rfl⟩ dX8_bestRound_234
            · skip
              have c_7 := b_nle (by omega) (by omega) c_7
              refine lv_iload hx hb dX8_bestRound_84 (lv_at hl 0 rfl) ?_
              refine lv_i2l (v := (nI k69).toInt64) hx hb dX8_bestRound_86 rfl ?_
              refine g_callSU (nA := 1) hC V hl.1 (m_bitsOf l D T ((nI k69).toInt64)) w_1258 w_1259 w_9 w_1260 (by decide +kernel) rfl ⟨(Nat.le_of_ble_eq_true rfl), (Nat.le_of_ble_eq_true rfl)⟩ [] rfl rfl (Nat.le_of_ble_eq_true rfl) dX8_bestRound_87 ⟨(Nat.le_of_ble_eq_true rfl), (Nat.le_of_ble_eq_true rfl)⟩ rfl (fun r w1 H locs hQ V => ?_)
              obtain ⟨z_10, rfl, rfl⟩ := hQ
              have V : gW D T A s [(o, .inr (8, [.int (nI 0), .ref g1, .ref g2, .ref g3, .ref g4, .int (nI tp), .int w6, .int w7, .int w8, .int w9, .int w10, .int w11, .int w12, .int w13, .int w14, .ref g15, .int w16, .ref g17, .int w18, .int w19, .ref g20, .int wv, .ref g22, .ref g23, .ref g24, .int w25, .int w26, .int w27, .ref g28, .ref g29, .int w30, .ref g31, .ref g32, .ref g33])), (g1, .inl (T 0, 282, .inl fa)), (g15, .inl (T 0, 10, .inl ga_)), (g17, .inl (T 0, 94, .inl gb_)), (g20, .inl (T 1, 10, .inr (.inl gc_))), (g22, .inl (T 1, 10, .inr (.inl gd_)))] H locs := V _ [] rfl rfl rfl (by decide +kernel) rfl
              show W p l e _ s m args below meth c H locs _ _ _ (F0 m 90 ls [.int z_10])
              refine lv_istore (lv' := [(5, .int z_10), (4, .int (nI k69)), (3, .int x69_3), (0, .ref o), (1, .int (nI i)), (2, .int wh)]) hx hb dX8_bestRound_90 hl (by decide) rfl (fun ls hl => ?_)
              refine lv_iload_n hx hb dX8_bestRound_92 rfl (lv_at hl 2 rfl) ?_
              refine lv_iconst (v := (-1)) hx hb dX8_bestRound_93 (by decide +kernel) ?_
              refine lv_icmp_eq (tgt := 106) hx hb dX8_bestRound_94 (by decide) (fun c_11 => ?_) (fun c_11 => ?_)
              · skip
                refine lv_iconst (v := (nI 0)) hx hb dX8_bestRound_106 (by decide +kernel) ?_
                refine lv_istore (lv' := [(6, .int (nI 0)), (5, .int z_10), (4, .int (nI k69)), (3, .int x69_3), (0, .ref o), (1, .int (nI i)), (2, .int wh)]) hx hb dX8_bestRound_107 hl (by decide) rfl (fun ls hl => ?_)
                have L_12 : ∀ (fu : Nat) (k109 : Nat) (ge_ : Nat → Int64), k109 ≤ n → n - k109 < fu → ∀ (H : Heap) (locs : List Loc) (ls : Array Slot), gW D T A s [(o, .inr (8, [.int (nI 0), .ref g1, .ref g2, .ref g3, .ref g4, .int (nI tp), .int w6, .int w7, .int w8, .int w9, .int w10, .int w11, .int w12, .int w13, .int w14, .ref g15, .int w16, .ref g17, .int w18, .int w19, .ref g20, .int wv, .ref g22, .ref g23, .ref g24, .int w25, .int w26, .int w27, .ref g28, .ref g29, .int w30, .ref g31, .ref g32, .ref g33])), (g1, .inl (T 0, 282, .inl fa)), (g15, .inl (T 0, 10, .inl ga_)), (g17, .inl (T 0, 94, .inl gb_)), (g20, .inl (T 1, 10, .inr (.inl ge_))), (g22, .inl (T 1, 10, .inr (.inl gd_)))] H locs → lv_has ls 7 [(6, .int (nI k109)), (5, .int z_10), (4, .int (nI k69)), (3, .int x69_3), (0, .ref o), (1, .int (nI i)), (2, .int wh)] → W p l e (rmD 4 0 0) s m args below meth c H locs 0 0 (MQ below (gQ D A (q_m_bestRound T n o le wh w0 g1 g2 g3 g4 tp w6 w7 w8 w9 w10 w11 w12 w13 w14 g15 w16 g17 w18 w19 g20 w21 g22 g23 g24 w25 w26 w27 g28 g29 w30 g31 g32 g33 fa fh fk fr fb)) args s 0 0 A) (F0 m 109 ls []) := by
                  intro fu_109
                  induction fu_109 with
                  | zero => intro k109 ge_ hk109 hmu; exact absurd hmu (Nat.not_lt_zero _)
                  | succ fu_109 ih_109 =>
                    intro k109 ge_ hk109 hmu_109 H locs ls V hl
                    refine lv_iload hx hb dX8_bestRound_109 (lv_at hl 0 rfl) ?_
                    refine lv_aload_n hx hb dX8_bestRound_111 rfl (lv_at hl 4 rfl) ?_
                    refine g_get hC V (ci := 8) uwX8 0 rfl rfl 1 (by decide) w_913 rfl rfl dX8_bestRound_112 ?_
                    refine lv_iconst (v := (nI 0)) hx hb dX8_bestRound_115 (by decide +kernel) ?_
                    refine g_iald hC V 1 rfl (vp_in_nI (by decide) (by decide)) (v := (nI n)) (by rw [nI_clamp (by decide)]; first | rfl | exact h_a.2.1) dX8_bestRound_116 ?_
                    refine lv_icmp_ge (tgt := 156) hx hb dX8_bestRound_117 (by decide) (fun c_13 => ?_) (fun c_13 => ?_)
                    · skip
                      have c_13 := b_le (by omega) (by omega) c_13
                      refine lv_aload_n hx hb dX8_bestRound_156 rfl (lv_at hl 4 rfl) ?_
                      refine lv_iload_n hx hb dX8_bestRound_157 rfl (lv_at hl 5 rfl) ?_
                      refine g_callVU (nA := 1) hC V hl.1 (m_holdsBy l D T n o i (nI 0) g1 g2 g3 g4 tp w6 w7 w8 w9 w10 w11 w12 w13 w14 g15 w16 g17 w18 w19 g20 wv g22 g23 g24 w25 w26 w27 g28 g29 w30 g31 g32 g33 fa ga_ gb_ ge_ h_a ⟨by omega, by omega⟩) w_1229 w_1231 w_s64 w_9 w_1232 (by decide +kernel) rfl ⟨(Nat.le_of_ble_eq_true rfl), (Nat.le_of_ble_eq_true rfl)⟩ 0 (ci := 8) rfl rfl [0, 1, 2, 3, 4] rfl rfl (Nat.le_of_ble_eq_true rfl) dX8_bestRound_158 ⟨(Nat.le_of_ble_eq_true rfl), (Nat.le_of_ble_eq_true rfl)⟩ rfl (fun r w1 H locs hQ V => ?_)
                      obtain ⟨z_14, wq_15, gh_16, gk_17, rfl, rfl⟩ := hQ
                      have V : gW D T A s [(o, .inr (8, [.int (nI 0), .ref g1, .ref g2, .ref g3, .ref g4, .int (nI tp), .int w6, .int w7, .int w8, .int w9, .int w10, .int w11, .int w12, .int w13, .int w14, .ref g15, .int w16, .ref g17, .int w18, .int w19, .ref g20, .int wq_15, .ref g22, .ref g23, .ref g24, .int w25, .int w26, .int w27, .ref g28, .ref g29, .int w30, .ref g31, .ref g32, .ref g33])), (g1, .inl (T 0, 282, .inl fa)), (g15, .inl (T 0, 10, .inl gh_16)), (g17, .inl (T 0, 94, .inl gk_17)), (g20, .inl (T 1, 10, .inr (.inl ge_))), (g22, .inl (T 1, 10, .inr (.inl gd_)))] H locs := V _ [0, 0, 0, 0, 0] rfl rfl rfl (by decide +kernel) rfl
                      show W p l e _ s m args below meth c H locs _ _ _ (F0 m 161 ls [.int z_14])
                      refine lv_iconst (v := (-1)) hx hb dX8_bestRound_161 (by decide +kernel) ?_
                      refine lv_icmp_eq (tgt := 168) hx hb dX8_bestRound_162 (by decide) (fun c_18 => ?_) (fun c_18 => ?_)
                      · skip
                        refine lv_iload hx hb dX8_bestRound_168 (lv_at hl 1 rfl) ?_
                        refine lv_istore_n (lv' := [(3, .int z_10), (6, .int (nI k109)), (5, .int z_10), (4, .int (nI k69)), (0, .ref o), (1, .int (nI i)), (2, .int wh)]) hx hb dX8_bestRound_170 rfl hl (by decide) rfl (fun ls hl => ?_)
                        refine lv_iconst (v := (nI 0)) hx hb dX8_bestRound_171 (by decide +kernel) ?_
                        refine lv_istore (lv' := [(6, .int (nI 0)), (3, .int z_10), (5, .int z_10), (4, .int (nI k69)), (0, .ref o), (1, .int (nI i)), (2, .int wh)]) hx hb dX8_bestRound_172 hl (by decide) rfl (fun ls hl => ?_)
                        have L_19 : ∀ (fu : Nat) (k174 : Nat) (gf_ : Nat → Int64), k174 ≤ n → n - k174 < fu → ∀ (H : Heap) (locs : List Loc) (ls : Array Slot), gW D T A s [(o, .inr (8, [.int (nI 0), .ref g1, .ref g2, .ref g3, .ref g4, .int (nI tp), .int w6, .int w7, .int w8, .int w9, .int w10, .int w11, .int w12, .int w13, .int w14, .ref g15, .int w16, .ref g17, .int w18, .int w19, .ref g20, .int wq_15, .ref g22, .ref g23, .ref g24, .int w25, .int w26, .int w27, .ref g28, .ref g29, .int w30, .ref g31, .ref g32, .ref g33])), (g1, .inl (T 0, 282, .inl fa)), (g15, .inl (T 0, 10, .inl gh_16)), (g17, .inl (T 0, 94, .inl gk_17)), (g20, .inl (T 1, 10, .inr (.inl ge_))), (g22, .inl (T 1, 10, .inr (.inl gf_)))] H locs → lv_has ls 7 [(6, .int (nI k174)), (3, .int z_10), (5, .int z_10), (4, .int (nI k69)), (0, .ref o), (1, .int (nI i)), (2, .int wh)] → W p l e (rmD 4 0 0) s m args below meth c H locs 0 0 (MQ below (gQ D A (q_m_bestRound T n o le wh w0 g1 g2 g3 g4 tp w6 w7 w8 w9 w10 w11 w12 w13 w14 g15 w16 g17 w18 w19 g20 w21 g22 g23 g24 w25 w26 w27 g28 g29 w30 g31 g32 g33 fa fh fk fr fb)) args s 0 0 A) (F0 m 174 ls []) := by
                          intro fu_174
                          induction fu_174 with
                          | zero => intro k174 gf_ hk174 hmu; exact absurd hmu (Nat.not_lt_zero _)
                          | succ fu_174 ih_174 =>
                            intro k174 gf_ hk174 hmu_174 H locs ls V hl
                            refine lv_iload hx hb dX8_bestRound_174 (lv_at hl 0 rfl) ?_
                            refine lv_aload_n hx hb dX8_bestRound_176 rfl (lv_at hl 4 rfl) ?_
                            refine g_get hC V (ci := 8) uwX8 0 rfl rfl 1 (by decide) w_913 rfl rfl dX8_bestRound_177 ?_
                            refine lv_iconst (v := (nI 0)) hx hb dX8_bestRound_180 (by decide +kernel) ?_
                            refine g_iald hC V 1 rfl (vp_in_nI (by decide) (by decide)) (v := (nI n)) (by rw [nI_clamp (by decide)]; first | rfl | exact h_a.2.1) dX8_bestRound_181 ?_
                            refine lv_icmp_ge (tgt := 205) hx hb dX8_bestRound_182 (by decide) (fun c_20 => ?_) (fun c_20 => ?_)
                            · skip
                              have c_20 := b_le (by omega) (by omega) c_20
                              refine lv_iinc (v := (nI (k69 + 1))) (lv' := [(4, .int (nI (k69 + 1))), (6, .int (nI k174)), (3, .int z_10), (5, .int z_10), (0, .ref o), (1, .int (nI i)), (2, .int wh)]) hx hb dX8_bestRound_205 hl (k := 3) rfl (nI_1 _) (by decide) rfl (fun ls hl => ?_)
                              refine lv_goto (tgt := 69) hx hb dX8_bestRound_208 (by decide) ?_
                              exact ih_69 (k69 + 1) z_10 wq_15 gh_16 gk_17 ge_ gf_ (by omega) (by omega) _ _ _ V (lv_sub hl [0, 2, 4, 5, 6] rfl)
                            · skip
                              have c_20 := b_nle (by omega) (by omega) c_20
                              refine lv_aload_n hx hb dX8_bestRound_185 rfl (lv_at hl 4 rfl) ?_
                              refine g_get hC V (ci := 8) uwX8 0 rfl rfl 22 (by decide) w_934 rfl rfl dX8_bestRound_186 ?_
                              refine lv_iload hx hb dX8_bestRound_189 (lv_at hl 0 rfl) ?_
                              refine lv_aload_n hx hb dX8_bestRound_191 rfl (lv_at hl 4 rfl) ?_
                              refine g_get hC V (ci := 8) uwX8 0 rfl rfl 20 (by decide) w_932 rfl rfl dX8_bestRound_192 ?_
                              refine lv_iload hx hb dX8_bestRound_195 (lv_at hl 0 rfl) ?_
                              refine g_lald hC V 4 rfl (vp_in_nI (by omega) (by omega)) (v := (ge_ k174)) (congrArg _ (nI_clamp (by omega))) dX8_bestRound_197 ?_
                              refine g_last hC V 5 rfl (vp_in_nI (by omega) (by omega)) (f' := (vp_updL gf_ k174 (ge_ k174))) (by rw [nI_clamp (by omega)]) (ws' := [(o, .inr (8, [.int (nI 0), .ref g1, .ref g2, .ref g3, .ref g4, .int (nI tp), .int w6, .int w7, .int w8, .int w9, .int w10, .int w11, .int w12, .int w13, .int w14, .ref g15, .int w16, .ref g17, .int w18, .int w19, .ref g20, .int wq_15, .ref g22, .ref g23, .ref g24, .int w25, .int w26, .int w27, .ref g28, .ref g29, .int w30, .ref g31, .ref g32, .ref g33])), (g1, .inl (T 0, 282, .inl fa)), (g15, .inl (T 0, 10, .inl gh_16)), (g17, .inl (T 0, 94, .inl gk_17)), (g20, .inl (T 1, 10, .inr (.inl ge_))), (g22, .inl (T 1, 10, .inr (.inl (vp_updL gf_ k174 (ge_ k174)))))]) rfl dX8_bestRound_198 (fun H locs V => ?_)
                              refine lv_iinc (v := (nI (k174 + 1))) (lv' := [(6, .int (nI (k174 + 1))), (3, .int z_10), (5, .int z_10), (4, .int (nI k69)), (0, .ref o), (1, .int (nI i)), (2, .int wh)]) hx hb dX8_bestRound_199 hl (k := 0) rfl (nI_1 _) (by decide) rfl (fun ls hl => ?_)
                              refine lv_goto (tgt := 174) hx hb dX8_bestRound_202 (by decide) ?_
                              exact ih_174 (k174 + 1) (vp_updL gf_ k174 (ge_ k174)) (by omega) (by omega) _ _ _ V (lv_sub hl [0, 1, 2, 3, 4, 5, 6] rfl)
                        exact L_19 _ 0 gd_ (by omega) (Nat.lt_succ_self _) _ _ _ V (lv_sub hl [0, 1, 2, 3, 4, 5, 6] rfl)
                      · skip
                        refine lv_goto (tgt := 205) hx hb dX8_bestRound_165 (by decide) ?_
                        refine lv_iinc (v := (nI (k69 + 1))) (lv' := [(4, .int (nI (k69 + 1))), (6, .int (nI k109)), (5, .int z_10), (3, .int x69_3), (0, .ref o), (1, .int (nI i)), (2, .int wh)]) hx hb dX8_bestRound_205 hl (k := 2) rfl (nI_1 _) (by decide) rfl (fun ls hl => ?_)
                        refine lv_goto (tgt := 69) hx hb dX8_bestRound_208 (by decide) ?_
                        exact ih_69 (k69 + 1) x69_3 wq_15 gh_16 gk_17 ge_ gd_ (by omega) (by omega) _ _ _ V (lv_sub hl [0, 3, 4, 5, 6] rfl)
                    · skip
                      have c_13 := b_nle (by omega) (by omega) c_13
                      refine lv_aload_n hx hb dX8_bestRound_120 rfl (lv_at hl 4 rfl) ?_
                      refine g_get hC V (ci := 8) uwX8 0 rfl rfl 20 (by decide) w_932 rfl rfl dX8_bestRound_121 ?_
                      refine lv_iload hx hb dX8_bestRound_124 (lv_at hl 0 rfl) ?_
                      refine lv_iload hx hb dX8_bestRound_126 (lv_at hl 2 rfl) ?_
                      refine lv_aload_n hx hb dX8_bestRound_128 rfl (lv_at hl 4 rfl) ?_
                      refine g_get hC V (ci := 8) uwX8 0 rfl rfl 1 (by decide) w_913 rfl rfl dX8_bestRound_129 ?_
                      refine lv_iconst (v := (nI 0)) hx hb dX8_bestRound_132 (by decide +kernel) ?_
                      refine g_iald hC V 1 rfl (vp_in_nI (by decide) (by decide)) (v := (nI n)) (by rw [nI_clamp (by decide)]; first | rfl | exact h_a.2.1) dX8_bestRound_133 ?_
                      refine lv_iconst (v := (nI 1)) hx hb dX8_bestRound_134 (by decide +kernel) ?_
                      refine lv_isub hx hb dX8_bestRound_135 ?_
                      refine lv_iload hx hb dX8_bestRound_136 (lv_at hl 0 rfl) ?_
                      refine lv_isub hx hb dX8_bestRound_138 ?_
                      refine lv_iload_n hx hb dX8_bestRound_139 rfl (lv_at hl 5 rfl) ?_
                      refine lv_imul hx hb dX8_bestRound_140 ?_
                      refine lv_ishr hx hb dX8_bestRound_141 ?_
                      refine lv_topi (fun x_21 ex_21 => ?_)
                      refine lv_iconst (v := (nI 1)) hx hb dX8_bestRound_142 (by decide +kernel) ?_
                      refine lv_iload_n hx hb dX8_bestRound_143 rfl (lv_at hl 5 rfl) ?_
                      refine lv_ishl hx hb dX8_bestRound_144 ?_
                      refine lv_iconst (v := (nI 1)) hx hb dX8_bestRound_145 (by decide +kernel) ?_
                      refine lv_isub hx hb dX8_bestRound_146 ?_
                      refine lv_iand hx hb dX8_bestRound_147 ?_
                      refine lv_i2l (v := (x_21 &&& (((nI 1) <<< ((nI i) &&& 31)) - (nI 1))).toInt64) hx hb dX8_bestRound_148 rfl ?_
                      refine g_last hC V 4 rfl (vp_in_nI (by omega) (by omega)) (f' := (vp_updL ge_ k109 ((x_21 &&& (((nI 1) <<< ((nI i) &&& 31)) - (nI 1))).toInt64))) (by rw [nI_clamp (by omega)]) (ws' := [(o, .inr (8, [.int (nI 0), .ref g1, .ref g2, .ref g3, .ref g4, .int (nI tp), .int w6, .int w7, .int w8, .int w9, .int w10, .int w11, .int w12, .int w13, .int w14, .ref g15, .int w16, .ref g17, .int w18, .int w19, .ref g20, .int wv, .ref g22, .ref g23, .ref g24, .int w25, .int w26, .int w27, .ref g28, .ref g29, .int w30, .ref g31, .ref g32, .ref g33])), (g1, .inl (T 0, 282, .inl fa)), (g15, .inl (T 0, 10, .inl ga_)), (g17, .inl (T 0, 94, .inl gb_)), (g20, .inl (T 1, 10, .inr (.inl (vp_updL ge_ k109 ((x_21 &&& (((nI 1) <<< ((nI i) &&& 31)) - (nI 1))).toInt64))))), (g22, .inl (T 1, 10, .inr (.inl gd_)))]) rfl dX8_bestRound_149 (fun H locs V => ?_)
                      refine lv_iinc (v := (nI (k109 + 1))) (lv' := [(6, .int (nI (k109 + 1))), (5, .int z_10), (4, .int (nI k69)), (3, .int x69_3), (0, .ref o), (1, .int (nI i)), (2, .int wh)]) hx hb dX8_bestRound_150 hl (k := 0) rfl (nI_1 _) (by decide) rfl (fun ls hl => ?_)
                      refine lv_goto (tgt := 109) hx hb dX8_bestRound_153 (by decide) ?_
                      exact ih_109 (k109 + 1) (vp_updL ge_ k109 ((x_21 &&& (((nI 1) <<< ((nI i) &&& 31)) - (nI 1))).toInt64)) (by omega) (by omega) _ _ _ V (lv_sub hl [0, 1, 2, 3, 4, 5, 6] rfl)
                exact L_12 _ 0 gc_ (by omega) (Nat.lt_succ_self _) _ _ _ V (lv_sub hl [0, 1, 2, 3, 4, 5, 6] rfl)
              · skip
                refine lv_iload hx hb dX8_bestRound_97 (lv_at hl 0 rfl) ?_
                refine lv_iload_n hx hb dX8_bestRound_99 rfl (lv_at hl 2 rfl) ?_
                refine lv_icmp_lt (tgt := 106) hx hb dX8_bestRound_100 (by decide) (fun c_22 => ?_) (fun c_22 => ?_)
                · skip
                  refine lv_iconst (v := (nI 0)) hx hb dX8_bestRound_106 (by decide +kernel) ?_
                  refine lv_istore (lv' := [(6, .int (nI 0)), (5, .int z_10), (4, .int (nI k69)), (3, .int x69_3), (0, .ref o), (1, .int (nI i)), (2, .int wh)]) hx hb dX8_bestRound_107 hl (by decide) rfl (fun ls hl => ?_)
                  have L_23 : ∀ (fu : Nat) (k109 : Nat) (ge_ : Nat → Int64), k109 ≤ n → n - k109 < fu → ∀ (H : Heap) (locs : List Loc) (ls : Array Slot), gW D T A s [(o, .inr (8, [.int (nI 0), .ref g1, .ref g2, .ref g3, .ref g4, .int (nI tp), .int w6, .int w7, .int w8, .int w9, .int w10, .int w11, .int w12, .int w13, .int w14, .ref g15, .int w16, .ref g17, .int w18, .int w19, .ref g20, .int wv, .ref g22, .ref g23, .ref g24, .int w25, .int w26, .int w27, .ref g28, .ref g29, .int w30, .ref g31, .ref g32, .ref g33])), (g1, .inl (T 0, 282, .inl fa)), (g15, .inl (T 0, 10, .inl ga_)), (g17, .inl (T 0, 94, .inl gb_)), (g20, .inl (T 1, 10, .inr (.inl ge_))), (g22, .inl (T 1, 10, .inr (.inl gd_)))] H locs → lv_has ls 7 [(6, .int (nI k109)), (5, .int z_10), (4, .int (nI k69)), (3, .int x69_3), (0, .ref o), (1, .int (nI i)), (2, .int wh)] → W p l e (rmD 4 0 0) s m args below meth c H locs 0 0 (MQ below (gQ D A (q_m_bestRound T n o le wh w0 g1 g2 g3 g4 tp w6 w7 w8 w9 w10 w11 w12 w13 w14 g15 w16 g17 w18 w19 g20 w21 g22 g23 g24 w25 w26 w27 g28 g29 w30 g31 g32 g33 fa fh fk fr fb)) args s 0 0 A) (F0 m 109 ls []) := by
                    intro fu_109
                    induction fu_109 with
                    | zero => intro k109 ge_ hk109 hmu; exact absurd hmu (Nat.not_lt_zero _)
                    | succ fu_109 ih_109 =>
                      intro k109 ge_ hk109 hmu_109 H locs ls V hl
                      refine lv_iload hx hb dX8_bestRound_109 (lv_at hl 0 rfl) ?_
                      refine lv_aload_n hx hb dX8_bestRound_111 rfl (lv_at hl 4 rfl) ?_
                      refine g_get hC V (ci := 8) uwX8 0 rfl rfl 1 (by decide) w_913 rfl rfl dX8_bestRound_112 ?_
                      refine lv_iconst (v := (nI 0)) hx hb dX8_bestRound_115 (by decide +kernel) ?_
                      refine g_iald hC V 1 rfl (vp_in_nI (by decide) (by decide)) (v := (nI n)) (by rw [nI_clamp (by decide)]; first | rfl | exact h_a.2.1) dX8_bestRound_116 ?_
                      refine lv_icmp_ge (tgt := 156) hx hb dX8_bestRound_117 (by decide) (fun c_24 => ?_) (fun c_24 => ?_)
                      · skip
                        have c_24 := b_le (by omega) (by omega) c_24
                        refine lv_aload_n hx hb dX8_bestRound_156 rfl (lv_at hl 4 rfl) ?_
                        refine lv_iload_n hx hb dX8_bestRound_157 rfl (lv_at hl 5 rfl) ?_
                        refine g_callVU (nA := 1) hC V hl.1 (m_holdsBy l D T n o i (nI 0) g1 g2 g3 g4 tp w6 w7 w8 w9 w10 w11 w12 w13 w14 g15 w16 g17 w18 w19 g20 wv g22 g23 g24 w25 w26 w27 g28 g29 w30 g31 g32 g33 fa ga_ gb_ ge_ h_a ⟨by omega, by omega⟩) w_1229 w_1231 w_s64 w_9 w_1232 (by decide +kernel) rfl ⟨(Nat.le_of_ble_eq_true rfl), (Nat.le_of_ble_eq_true rfl)⟩ 0 (ci := 8) rfl rfl [0, 1, 2, 3, 4] rfl rfl (Nat.le_of_ble_eq_true rfl) dX8_bestRound_158 ⟨(Nat.le_of_ble_eq_true rfl), (Nat.le_of_ble_eq_true rfl)⟩ rfl (fun r w1 H locs hQ V => ?_)
                        obtain ⟨z_25, wq_26, gh_27, gk_28, rfl, rfl⟩ := hQ
                        have V : gW D T A s [(o, .inr (8, [.int (nI 0), .ref g1, .ref g2, .ref g3, .ref g4, .int (nI tp), .int w6, .int w7, .int w8, .int w9, .int w10, .int w11, .int w12, .int w13, .int w14, .ref g15, .int w16, .ref g17, .int w18, .int w19, .ref g20, .int wq_26, .ref g22, .ref g23, .ref g24, .int w25, .int w26, .int w27, .ref g28, .ref g29, .int w30, .ref g31, .ref g32, .ref g33])), (g1, .inl (T 0, 282, .inl fa)), (g15, .inl (T 0, 10, .inl gh_27)), (g17, .inl (T 0, 94, .inl gk_28)), (g20, .inl (T 1, 10, .inr (.inl ge_))), (g22, .inl (T 1, 10, .inr (.inl gd_)))] H locs := V _ [0, 0, 0, 0, 0] rfl rfl rfl (by decide +kernel) rfl
                        show W p l e _ s m args below meth c H locs _ _ _ (F0 m 161 ls [.int z_25])
                        refine lv_iconst (v := (-1)) hx hb dX8_bestRound_161 (by decide +kernel) ?_
                        refine lv_icmp_eq (tgt := 168) hx hb dX8_bestRound_162 (by decide) (fun c_29 => ?_) (fun c_29 => ?_)
                        · skip
                          refine lv_iload hx hb dX8_bestRound_168 (lv_at hl 1 rfl) ?_
                          refine lv_istore_n (lv' := [(3, .int z_10), (6, .int (nI k109)), (5, .int z_10), (4, .int (nI k69)), (0, .ref o), (1, .int (nI i)), (2, .int wh)]) hx hb dX8_bestRound_170 rfl hl (by decide) rfl (fun ls hl => ?_)
                          refine lv_iconst (v := (nI 0)) hx hb dX8_bestRound_171 (by decide +kernel) ?_
                          refine lv_istore (lv' := [(6, .int (nI 0)), (3, .int z_10), (5, .int z_10), (4, .int (nI k69)), (0, .ref o), (1, .int (nI i)), (2, .int wh)]) hx hb dX8_bestRound_172 hl (by decide) rfl (fun ls hl => ?_)
                          have L_30 : ∀ (fu : Nat) (k174 : Nat) (gf_ : Nat → Int64), k174 ≤ n → n - k174 < fu → ∀ (H : Heap) (locs : List Loc) (ls : Array Slot), gW D T A s [(o, .inr (8, [.int (nI 0), .ref g1, .ref g2, .ref g3, .ref g4, .int (nI tp), .int w6, .int w7, .int w8, .int w9, .int w10, .int w11, .int w12, .int w13, .int w14, .ref g15, .int w16, .ref g17, .int w18, .int w19, .ref g20, .int wq_26, .ref g22, .ref g23, .ref g24, .int w25, .int w26, .int w27, .ref g28, .ref g29, .int w30, .ref g31, .ref g32, .ref g33])), (g1, .inl (T 0, 282, .inl fa)), (g15, .inl (T 0, 10, .inl gh_27)), (g17, .inl (T 0, 94, .inl gk_28)), (g20, .inl (T 1, 10, .inr (.inl ge_))), (g22, .inl (T 1, 10, .inr (.inl gf_)))] H locs → lv_has ls 7 [(6, .int (nI k174)), (3, .int z_10), (5, .int z_10), (4, .int (nI k69)), (0, .ref o), (1, .int (nI i)), (2, .int wh)] → W p l e (rmD 4 0 0) s m args below meth c H locs 0 0 (MQ below (gQ D A (q_m_bestRound T n o le wh w0 g1 g2 g3 g4 tp w6 w7 w8 w9 w10 w11 w12 w13 w14 g15 w16 g17 w18 w19 g20 w21 g22 g23 g24 w25 w26 w27 g28 g29 w30 g31 g32 g33 fa fh fk fr fb)) args s 0 0 A) (F0 m 174 ls []) := by
                            intro fu_174
                            induction fu_174 with
                            | zero => intro k174 gf_ hk174 hmu; exact absurd hmu (Nat.not_lt_zero _)
                            | succ fu_174 ih_174 =>
                              intro k174 gf_ hk174 hmu_174 H locs ls V hl
                              refine lv_iload hx hb dX8_bestRound_174 (lv_at hl 0 rfl) ?_
                              refine lv_aload_n hx hb dX8_bestRound_176 rfl (lv_at hl 4 rfl) ?_
                              refine g_get hC V (ci := 8) uwX8 0 rfl rfl 1 (by decide) w_913 rfl rfl dX8_bestRound_177 ?_
                              refine lv_iconst (v := (nI 0)) hx hb dX8_bestRound_180 (by decide +kernel) ?_
                              refine g_iald hC V 1 rfl (vp_in_nI (by decide) (by decide)) (v := (nI n)) (by rw [nI_clamp (by decide)]; first | rfl | exact h_a.2.1) dX8_bestRound_181 ?_
                              refine lv_icmp_ge (tgt := 205) hx hb dX8_bestRound_182 (by decide) (fun c_31 => ?_) (fun c_31 => ?_)
                              · skip
                                have c_31 := b_le (by omega) (by omega) c_31
                                refine lv_iinc (v := (nI (k69 + 1))) (lv' := [(4, .int (nI (k69 + 1))), (6, .int (nI k174)), (3, .int z_10), (5, .int z_10), (0, .ref o), (1, .int (nI i)), (2, .int wh)]) hx hb dX8_bestRound_205 hl (k := 3) rfl (nI_1 _) (by decide) rfl (fun ls hl => ?_)
                                refine lv_goto (tgt := 69) hx hb dX8_bestRound_208 (by decide) ?_
                                exact ih_69 (k69 + 1) z_10 wq_26 gh_27 gk_28 ge_ gf_ (by omega) (by omega) _ _ _ V (lv_sub hl [0, 2, 4, 5, 6] rfl)
                              · skip
                                have c_31 := b_nle (by omega) (by omega) c_31
                                refine lv_aload_n hx hb dX8_bestRound_185 rfl (lv_at hl 4 rfl) ?_
                                refine g_get hC V (ci := 8) uwX8 0 rfl rfl 22 (by decide) w_934 rfl rfl dX8_bestRound_186 ?_
                                refine lv_iload hx hb dX8_bestRound_189 (lv_at hl 0 rfl) ?_
                                refine lv_aload_n hx hb dX8_bestRound_191 rfl (lv_at hl 4 rfl) ?_
                                refine g_get hC V (ci := 8) uwX8 0 rfl rfl 20 (by decide) w_932 rfl rfl dX8_bestRound_192 ?_
                                refine lv_iload hx hb dX8_bestRound_195 (lv_at hl 0 rfl) ?_
                                refine g_lald hC V 4 rfl (vp_in_nI (by omega) (by omega)) (v := (ge_ k174)) (congrArg _ (nI_clamp (by omega))) dX8_bestRound_197 ?_
                                refine g_last hC V 5 rfl (vp_in_nI (by omega) (by omega)) (f' := (vp_updL gf_ k174 (ge_ k174))) (by rw [nI_clamp (by omega)]) (ws' := [(o, .inr (8, [.int (nI 0), .ref g1, .ref g2, .ref g3, .ref g4, .int (nI tp), .int w6, .int w7, .int w8, .int w9, .int w10, .int w11, .int w12, .int w13, .int w14, .ref g15, .int w16, .ref g17, .int w18, .int w19, .ref g20, .int wq_26, .ref g22, .ref g23, .ref g24, .int w25, .int w26, .int w27, .ref g28, .ref g29, .int w30, .ref g31, .ref g32, .ref g33])), (g1, .inl (T 0, 282, .inl fa)), (g15, .inl (T 0, 10, .inl gh_27)), (g17, .inl (T 0, 94, .inl gk_28)), (g20, .inl (T 1, 10, .inr (.inl ge_))), (g22, .inl (T 1, 10, .inr (.inl (vp_updL gf_ k174 (ge_ k174)))))]) rfl dX8_bestRound_198 (fun H locs V => ?_)
                                refine lv_iinc (v := (nI (k174 + 1))) (lv' := [(6, .int (nI (k174 + 1))), (3, .int z_10), (5, .int z_10), (4, .int (nI k69)), (0, .ref o), (1, .int (nI i)), (2, .int wh)]) hx hb dX8_bestRound_199 hl (k := 0) rfl (nI_1 _) (by decide) rfl (fun ls hl => ?_)
                                refine lv_goto (tgt := 174) hx hb dX8_bestRound_202 (by decide) ?_
                                exact ih_174 (k174 + 1) (vp_updL gf_ k174 (ge_ k174)) (by omega) (by omega) _ _ _ V (lv_sub hl [0, 1, 2, 3, 4, 5, 6] rfl)
                          exact L_30 _ 0 gd_ (by omega) (Nat.lt_succ_self _) _ _ _ V (lv_sub hl [0, 1, 2, 3, 4, 5, 6] rfl)
                        · skip
                          refine lv_goto (tgt := 205) hx hb dX8_bestRound_165 (by decide) ?_
                          refine lv_iinc (v := (nI (k69 + 1))) (lv' := [(4, .int (nI (k69 + 1))), (6, .int (nI k109)), (5, .int z_10), (3, .int x69_3), (0, .ref o), (1, .int (nI i)), (2, .int wh)]) hx hb dX8_bestRound_205 hl (k := 2) rfl (nI_1 _) (by decide) rfl (fun ls hl => ?_)
                          refine lv_goto (tgt := 69) hx hb dX8_bestRound_208 (by decide) ?_
                          exact ih_69 (k69 + 1) x69_3 wq_26 gh_27 gk_28 ge_ gd_ (by omega) (by omega) _ _ _ V (lv_sub hl [0, 3, 4, 5, 6] rfl)
                      · skip
                        have c_24 := b_nle (by omega) (by omega) c_24
                        refine lv_aload_n hx hb dX8_bestRound_120 rfl (lv_at hl 4 rfl) ?_
                        refine g_get hC V (ci := 8) uwX8 0 rfl rfl 20 (by decide) w_932 rfl rfl dX8_bestRound_121 ?_
                        refine lv_iload hx hb dX8_bestRound_124 (lv_at hl 0 rfl) ?_
                        refine lv_iload hx hb dX8_bestRound_126 (lv_at hl 2 rfl) ?_
                        refine lv_aload_n hx hb dX8_bestRound_128 rfl (lv_at hl 4 rfl) ?_
                        refine g_get hC V (ci := 8) uwX8 0 rfl rfl 1 (by decide) w_913 rfl rfl dX8_bestRound_129 ?_
                        refine lv_iconst (v := (nI 0)) hx hb dX8_bestRound_132 (by decide +kernel) ?_
                        refine g_iald hC V 1 rfl (vp_in_nI (by decide) (by decide)) (v := (nI n)) (by rw [nI_clamp (by decide)]; first | rfl | exact h_a.2.1) dX8_bestRound_133 ?_
                        refine lv_iconst (v := (nI 1)) hx hb dX8_bestRound_134 (by decide +kernel) ?_
                        refine lv_isub hx hb dX8_bestRound_135 ?_
                        refine lv_iload hx hb dX8_bestRound_136 (lv_at hl 0 rfl) ?_
                        refine lv_isub hx hb dX8_bestRound_138 ?_
                        refine lv_iload_n hx hb dX8_bestRound_139 rfl (lv_at hl 5 rfl) ?_
                        refine lv_imul hx hb dX8_bestRound_140 ?_
                        refine lv_ishr hx hb dX8_bestRound_141 ?_
                        refine lv_topi (fun x_32 ex_32 => ?_)
                        refine lv_iconst (v := (nI 1)) hx hb dX8_bestRound_142 (by decide +kernel) ?_
                        refine lv_iload_n hx hb dX8_bestRound_143 rfl (lv_at hl 5 rfl) ?_
                        refine lv_ishl hx hb dX8_bestRound_144 ?_
                        refine lv_iconst (v := (nI 1)) hx hb dX8_bestRound_145 (by decide +kernel) ?_
                        refine lv_isub hx hb dX8_bestRound_146 ?_
                        refine lv_iand hx hb dX8_bestRound_147 ?_
                        refine lv_i2l (v := (x_32 &&& (((nI 1) <<< ((nI i) &&& 31)) - (nI 1))).toInt64) hx hb dX8_bestRound_148 rfl ?_
                        refine g_last hC V 4 rfl (vp_in_nI (by omega) (by omega)) (f' := (vp_updL ge_ k109 ((x_32 &&& (((nI 1) <<< ((nI i) &&& 31)) - (nI 1))).toInt64))) (by rw [nI_clamp (by omega)]) (ws' := [(o, .inr (8, [.int (nI 0), .ref g1, .ref g2, .ref g3, .ref g4, .int (nI tp), .int w6, .int w7, .int w8, .int w9, .int w10, .int w11, .int w12, .int w13, .int w14, .ref g15, .int w16, .ref g17, .int w18, .int w19, .ref g20, .int wv, .ref g22, .ref g23, .ref g24, .int w25, .int w26, .int w27, .ref g28, .ref g29, .int w30, .ref g31, .ref g32, .ref g33])), (g1, .inl (T 0, 282, .inl fa)), (g15, .inl (T 0, 10, .inl ga_)), (g17, .inl (T 0, 94, .inl gb_)), (g20, .inl (T 1, 10, .inr (.inl (vp_updL ge_ k109 ((x_32 &&& (((nI 1) <<< ((nI i) &&& 31)) - (nI 1))).toInt64))))), (g22, .inl (T 1, 10, .inr (.inl gd_)))]) rfl dX8_bestRound_149 (fun H locs V => ?_)
                        refine lv_iinc (v := (nI (k109 + 1))) (lv' := [(6, .int (nI (k109 + 1))), (5, .int z_10), (4, .int (nI k69)), (3, .int x69_3), (0, .ref o), (1, .int (nI i)), (2, .int wh)]) hx hb dX8_bestRound_150 hl (k := 0) rfl (nI_1 _) (by decide) rfl (fun ls hl => ?_)
                        refine lv_goto (tgt := 109) hx hb dX8_bestRound_153 (by decide) ?_
                        exact ih_109 (k109 + 1) (vp_updL ge_ k109 ((x_32 &&& (((nI 1) <<< ((nI i) &&& 31)) - (nI 1))).toInt64)) (by omega) (by omega) _ _ _ V (lv_sub hl [0, 1, 2, 3, 4, 5, 6] rfl)
                  exact L_23 _ 0 gc_ (by omega) (Nat.lt_succ_self _) _ _ _ V (lv_sub hl [0, 1, 2, 3, 4, 5, 6] rfl)
                · skip
                  refine lv_goto (tgt := 205) hx hb dX8_bestRound_103 (by decide) ?_
                  refine lv_iinc (v := (nI (k69 + 1))) (lv' := [(4, .int (nI (k69 + 1))), (5, .int z_10), (3, .int x69_3), (0, .ref o), (1, .int (nI i)), (2, .int wh)]) hx hb dX8_bestRound_205 hl (k := 1) rfl (nI_1 _) (by decide) rfl (fun ls hl => ?_)
                  refine lv_goto (tgt := 69) hx hb dX8_bestRound_208 (by decide) ?_
                  exact ih_69 (k69 + 1) x69_3 wv ga_ gb_ gc_ gd_ (by omega) (by omega) _ _ _ V (lv_sub hl [0, 2, 3, 4, 5] rfl)
        exact L_6 _ 0 (-1) w21 fh fk fr fb (by omega) (Nat.lt_succ_self _) _ _ _ V (lv_sub hl [0, 1, 2, 3, 4] rfl)
      · skip
        have c_5 := b_nle (by omega) (by omega) c_5
        refine lv_bipush (v := (-4)) hx hb dX8_bestRound_61 (by decide +kernel) ?_
        exact g_iret (Qr := (q_m_bestRound T n o le wh w0 g1 g2 g3 g4 tp w6 w7 w8 w9 w10 w11 w12 w13 w14 g15 w16 g17 w18 w19 g20 w21 g22 g23 g24 w25 w26 w27 g28 g29 w30 g31 g32 g33 fa fh fk fr fb)) hC V ⟨(Nat.le_of_ble_eq_true rfl), (Nat.le_of_ble_eq_true rfl)⟩ ⟨(-4), w21, fh, fk, fr, fb, rfl, rfl⟩ dX8_bestRound_63
    · have V : gW D T A s [(o, .inr (8, [.int (nI 0), .ref g1, .ref g2, .ref g3, .ref g4, .int (nI tp), .int w6, .int w7, .int w8, .int w9, .int w10, .int w11, .int w12, .int w13, .int w14, .ref g15, .int w16, .ref g17, .int w18, .int w19, .ref g20, .int w21, .ref g22, .ref g23, .ref g24, .int w25, .int w26, .int w27, .ref g28, .ref g29, .int w30, .ref g31, .ref g32, .ref g33])), (g1, .inl (T 0, 282, .inl fa)), (g15, .inl (T 0, 10, .inl fh)), (g17, .inl (T 0, 94, .inl fk)), (g20, .inl (T 1, 10, .inr (.inl fr))), (g22, .inl (T 1, 10, .inr (.inl fb)))] H locs := V _ [] rfl rfl rfl (by decide +kernel) rfl
      show W p l e _ s m args below meth c H locs _ _ _ (F0 m 42 ls [.int (nI 0)])
      refine lv_if_ne (tgt := 48) hx hb dX8_bestRound_42 (by decide) (fun c => absurd (show (nI 0) = 0 by decide +kernel) c) (fun _ => ?_)
      refine lv_bipush (v := (-3)) hx hb dX8_bestRound_45 (by decide +kernel) ?_
      exact g_iret (Qr := (q_m_bestRound T n o le wh w0 g1 g2 g3 g4 tp w6 w7 w8 w9 w10 w11 w12 w13 w14 g15 w16 g17 w18 w19 g20 w21 g22 g23 g24 w25 w26 w27 g28 g29 w30 g31 g32 g33 fa fh fk fr fb)) hC V ⟨(Nat.le_of_ble_eq_true rfl), (Nat.le_of_ble_eq_true rfl)⟩ ⟨(-3), w21, fh, fk, fr, fb, rfl, rfl⟩ dX8_bestRound_47
  · skip
    refine lv_iload_n hx hb dX8_bestRound_9 rfl (lv_at hl 2 rfl) ?_
    refine lv_i2l (v := wh.toInt64) hx hb dX8_bestRound_10 rfl ?_
    refine lv_ldc2 (v := (10)) hx hb hown (hts _ w_1257) dX8_bestRound_11 ?_
    refine g_vl (y := (nI 10).toInt64) (by decide +kernel) ?_
    refine lv_bipush (v := (nI 9)) hx hb dX8_bestRound_14 (by decide +kernel) ?_
    refine lv_aload_n hx hb dX8_bestRound_16 rfl (lv_at hl 0 rfl) ?_
    refine g_get hC V (ci := 8) uwX8 0 rfl rfl 1 (by decide) w_913 rfl rfl dX8_bestRound_17 ?_
    refine lv_iconst (v := (nI 0)) hx hb dX8_bestRound_20 (by decide +kernel) ?_
    refine g_iald hC V 1 rfl (vp_in_nI (by decide) (by decide)) (v := (nI n)) (by rw [nI_clamp (by decide)]; first | rfl | exact h_a.2.1) dX8_bestRound_21 ?_
    refine lv_iadd hx hb dX8_bestRound_22 ?_
    refine g_vi (y := (nI (9 + n))) (nI_add _ _) ?_
    refine lv_i2l (v := (nI (9 + n)).toInt64) hx hb dX8_bestRound_23 rfl ?_
    refine g_callSU (nA := 3) hC V hl.1 (m_within l D T wh (nI 10) (nI (9 + n))) w_1023 w_1024 w_9 w_1025 (by decide +kernel) rfl ⟨(Nat.le_of_ble_eq_true rfl), (Nat.le_of_ble_eq_true rfl)⟩ [] rfl rfl (Nat.le_of_ble_eq_true rfl) dX8_bestRound_24 ⟨(Nat.le_of_ble_eq_true rfl), (Nat.le_of_ble_eq_true rfl)⟩ rfl (fun r w1 H locs hQ V => ?_)
    rcases hQ with ⟨rfl, rfl, f_33, f_34⟩ | ⟨rfl, rfl, f_35⟩
    · have V : gW D T A s [(o, .inr (8, [.int (nI 0), .ref g1, .ref g2, .ref g3, .ref g4, .int (nI tp), .int w6, .int w7, .int w8, .int w9, .int w10, .int w11, .int w12, .int w13, .int w14, .ref g15, .int w16, .ref g17, .int w18, .int w19, .ref g20, .int w21, .ref g22, .ref g23, .ref g24, .int w25, .int w26, .int w27, .ref g28, .ref g29, .int w30, .ref g31, .ref g32, .ref g33])), (g1, .inl (T 0, 282, .inl fa)), (g15, .inl (T 0, 10, .inl fh)), (g17, .inl (T 0, 94, .inl fk)), (g20, .inl (T 1, 10, .inr (.inl fr))), (g22, .inl (T 1, 10, .inr (.inl fb)))] H locs := V _ [] rfl rfl rfl (by decide +kernel) rfl
      show W p l e _ s m args below meth c H locs _ _ _ (F0 m 27 ls [.int (nI 1)])
      obtain ⟨jw_36, hjw_36, ejw_36⟩ := w_ten hn10 f_33 f_34
      refine lv_if_ne (tgt := 33) hx hb dX8_bestRound_27 (by decide) (fun _ => ?_) (fun c => absurd (show (nI 1) = 0 from c) (by decide +kernel))
      refine lv_iload_n hx hb dX8_bestRound_33 rfl (lv_at hl 1 rfl) ?_
      refine lv_i2l (v := le.toInt64) hx hb dX8_bestRound_34 rfl ?_
      refine lv_lconst (v := (nI 1).toInt64) hx hb dX8_bestRound_35 (by decide +kernel) ?_
      refine lv_ldc2 (v := (10)) hx hb hown (hts _ w_1257) dX8_bestRound_36 ?_
      refine g_vl (y := (nI 10).toInt64) (by decide +kernel) ?_
      refine g_callSU (nA := 3) hC V hl.1 (m_within l D T le (nI 1) (nI 10)) w_1023 w_1024 w_9 w_1025 (by decide +kernel) rfl ⟨(Nat.le_of_ble_eq_true rfl), (Nat.le_of_ble_eq_true rfl)⟩ [] rfl rfl (Nat.le_of_ble_eq_true rfl) dX8_bestRound_39 ⟨(Nat.le_of_ble_eq_true rfl), (Nat.le_of_ble_eq_true rfl)⟩ rfl (fun r w1 H locs hQ V => ?_)
      rcases hQ with ⟨rfl, rfl, f_37, f_38⟩ | ⟨rfl, rfl, f_39⟩
      · have V : gW D T A s [(o, .inr (8, [.int (nI 0), .ref g1, .ref g2, .ref g3, .ref g4, .int (nI tp), .int w6, .int w7, .int w8, .int w9, .int w10, .int w11, .int w12, .int w13, .int w14, .ref g15, .int w16, .ref g17, .int w18, .int w19, .ref g20, .int w21, .ref g22, .ref g23, .ref g24, .int w25, .int w26, .int w27, .ref g28, .ref g29, .int w30, .ref g31, .ref g32, .ref g33])), (g1, .inl (T 0, 282, .inl fa)), (g15, .inl (T 0, 10, .inl fh)), (g17, .inl (T 0, 94, .inl fk)), (g20, .inl (T 1, 10, .inr (.inl fr))), (g22, .inl (T 1, 10, .inr (.inl fb)))] H locs := V _ [] rfl rfl rfl (by decide +kernel) rfl
        show W p l e _ s m args below meth c H locs _ _ _ (F0 m 42 ls [.int (nI 1)])
        obtain ⟨i, hi1, hi2, ei⟩ := g_rng (by first | decide | omega) (by first | decide | omega) f_37 f_38
        rw [ei] at hl
        have hmul : n * i ≤ 10 * 10 := Nat.mul_le_mul hn10 (by omega)
        refine lv_if_ne (tgt := 48) hx hb dX8_bestRound_42 (by decide) (fun _ => ?_) (fun c => absurd (show (nI 1) = 0 from c) (by decide +kernel))
        refine lv_aload_n hx hb dX8_bestRound_48 rfl (lv_at hl 0 rfl) ?_
        refine g_get hC V (ci := 8) uwX8 0 rfl rfl 1 (by decide) w_913 rfl rfl dX8_bestRound_49 ?_
        refine lv_iconst (v := (nI 0)) hx hb dX8_bestRound_52 (by decide +kernel) ?_
        refine g_iald hC V 1 rfl (vp_in_nI (by decide) (by decide)) (v := (nI n)) (by rw [nI_clamp (by decide)]; first | rfl | exact h_a.2.1) dX8_bestRound_53 ?_
        refine lv_iload_n hx hb dX8_bestRound_54 rfl (lv_at hl 1 rfl) ?_
        refine lv_imul hx hb dX8_bestRound_55 ?_
        refine g_vi (y := (nI (n * i))) (pk_mul _ _) ?_
        refine lv_bipush (v := (nI 10)) hx hb dX8_bestRound_56 (by decide +kernel) ?_
        refine lv_icmp_le (tgt := 64) hx hb dX8_bestRound_58 (by decide) (fun c_40 => ?_) (fun c_40 => ?_)
        · skip
          have c_40 := b_le (by omega) (by omega) c_40
          have hpw := pw10 c_40
          refine lv_iconst (v := (-1)) hx hb dX8_bestRound_64 (by decide +kernel) ?_
          refine lv_istore_n (lv' := [(3, .int (-1)), (0, .ref o), (1, .int (nI i)), (2, .int wh)]) hx hb dX8_bestRound_65 rfl hl (by decide) rfl (fun ls hl => ?_)
          refine lv_iconst (v := (nI 0)) hx hb dX8_bestRound_66 (by decide +kernel) ?_
          refine lv_istore (lv' := [(4, .int (nI 0)), (3, .int (-1)), (0, .ref o), (1, .int (nI i)), (2, .int wh)]) hx hb dX8_bestRound_67 hl (by decide) rfl (fun ls hl => ?_)
          have L_41 : ∀ (fu : Nat) (k69 : Nat) (x69_3 : Int32) (wv : Int32) (ga_ : Nat → Int32) (gb_ : Nat → Int32) (gc_ : Nat → Int64) (gd_ : Nat → Int64), k69 ≤ 2 ^ (n * i) → 2 ^ (n * i) - k69 < fu → ∀ (H : Heap) (locs : List Loc) (ls : Array Slot), gW D T A s [(o, .inr (8, [.int (nI 0), .ref g1, .ref g2, .ref g3, .ref g4, .int (nI tp), .int w6, .int w7, .int w8, .int w9, .int w10, .int w11, .int w12, .int w13, .int w14, .ref g15, .int w16, .ref g17, .int w18, .int w19, .ref g20, .int wv, .ref g22, .ref g23, .ref g24, .int w25, .int w26, .int w27, .ref g28, .ref g29, .int w30, .ref g31, .ref g32, .ref g33])), (g1, .inl (T 0, 282, .inl fa)), (g15, .inl (T 0, 10, .inl ga_)), (g17, .inl (T 0, 94, .inl gb_)), (g20, .inl (T 1, 10, .inr (.inl gc_))), (g22, .inl (T 1, 10, .inr (.inl gd_)))] H locs → lv_has ls 7 [(4, .int (nI k69)), (3, .int x69_3), (0, .ref o), (1, .int (nI i)), (2, .int wh)] → W p l e (rmD 4 0 0) s m args below meth c H locs 0 0 (MQ below (gQ D A (q_m_bestRound T n o le wh w0 g1 g2 g3 g4 tp w6 w7 w8 w9 w10 w11 w12 w13 w14 g15 w16 g17 w18 w19 g20 w21 g22 g23 g24 w25 w26 w27 g28 g29 w30 g31 g32 g33 fa fh fk fr fb)) args s 0 0 A) (F0 m 69 ls []) := by
            intro fu_69
            induction fu_69 with
            | zero => intro k69 x69_3 wv ga_ gb_ gc_ gd_ hk69 hmu; exact absurd hmu (Nat.not_lt_zero _)
            | succ fu_69 ih_69 =>
              intro k69 x69_3 wv ga_ gb_ gc_ gd_ hk69 hmu_69 H locs ls V hl
              refine lv_iload hx hb dX8_bestRound_69 (lv_at hl 0 rfl) ?_
              refine lv_iconst (v := (nI 1)) hx hb dX8_bestRound_71 (by decide +kernel) ?_
              refine lv_aload_n hx hb dX8_bestRound_72 rfl (lv_at hl 2 rfl) ?_
              refine g_get hC V (ci := 8) uwX8 0 rfl rfl 1 (by decide) w_913 rfl rfl dX8_bestRound_73 ?_
              refine lv_iconst (v := (nI 0)) hx hb dX8_bestRound_76 (by decide +kernel) ?_
              refine g_iald hC V 1 rfl (vp_in_nI (by decide) (by decide)) (v := (nI n)) (by rw [nI_clamp (by decide)]; first | rfl | exact h_a.2.1) dX8_bestRound_77 ?_
              refine lv_iload_n hx hb dX8_bestRound_78 rfl (lv_at hl 3 rfl) ?_
              refine lv_imul hx hb dX8_bestRound_79 ?_
              refine g_vi (y := (nI (n * i))) (pk_mul _ _) ?_
              refine lv_ishl hx hb dX8_bestRound_80 ?_
              refine g_vi (y := (nI (2 ^ (n * i)))) (shl_pow (by omega)) ?_
              refine lv_icmp_ge (tgt := 211) hx hb dX8_bestRound_81 (by decide) (fun c_42 => ?_) (fun c_42 => ?_)
              · skip
                have c_42 := b_le (by omega) (by omega) c_42
                refine lv_iload_n hx hb dX8_bestRound_211 rfl (lv_at hl 1 rfl) ?_
                refine lv_iconst (v := (-1)) hx hb dX8_bestRound_212 (by decide +kernel) ?_
                refine lv_icmp_eq (tgt := 220) hx hb dX8_bestRound_213 (by decide) (fun c_43 => ?_) (fun c_43 => ?_)
                · skip
                  refine lv_iload_n hx hb dX8_bestRound_220 rfl (lv_at hl 1 rfl) ?_
                  refine lv_goto (tgt := 234) hx hb dX8_bestRound_221 (by decide) ?_
                  exact g_iret (Qr := (q_m_bestRound T n o le wh w0 g1 g2 g3 g4 tp w6 w7 w8 w9 w10 w11 w12 w13 w14 g15 w16 g17 w18 w19 g20 w21 g22 g23 g24 w25 w26 w27 g28 g29 w30 g31 g32 g33 fa fh fk fr fb)) hC V ⟨(Nat.le_of_ble_eq_true rfl), (Nat.le_of_ble_eq_true rfl)⟩ ⟨x69_3, wv, ga_, gb_, gc_, gd_, rfl, rfl⟩ dX8_bestRound_234
                · skip
                  refine lv_iload_n hx hb dX8_bestRound_216 rfl (lv_at hl 4 rfl) ?_
                  refine lv_if_ne (tgt := 224) hx hb dX8_bestRound_217 (by decide) (fun c_44 => ?_) (fun c_44 => ?_)
                  · skip
                    refine lv_aload_n hx hb dX8_bestRound_224 rfl (lv_at hl 2 rfl) ?_
                    refine g_get hC V (ci := 8) uwX8 0 rfl rfl 22 (by decide) w_934 rfl rfl dX8_bestRound_225 ?_
                    refine lv_iload_n hx hb dX8_bestRound_228 rfl (lv_at hl 4 rfl) ?_
                    refine lv_bipush (v := (nI 10)) hx hb dX8_bestRound_229 (by decide +kernel) ?_
                    refine lv_isub hx hb dX8_bestRound_231 ?_
                    refine g_vi (y := nI jw_36) ejw_36 ?_
                    refine g_lald hC V 5 rfl (vp_in_nI (by omega) (by omega)) (v := (gd_ jw_36)) (congrArg _ (nI_clamp (by omega))) dX8_bestRound_232 ?_
                    refine lv_l2i hx hb dX8_bestRound_233 rfl ?_
                    exact g_iret (Qr := (q_m_bestRound T n o le wh w0 g1 g2 g3 g4 tp w6 w7 w8 w9 w10 w11 w12 w13 w14 g15 w16 g17 w18 w19 g20 w21 g22 g23 g24 w25 w26 w27 g28 g29 w30 g31 g32 g33 fa fh fk fr fb)) hC V ⟨(Nat.le_of_ble_eq_true rfl), (Nat.le_of_ble_eq_true rfl)⟩ ⟨((gd_ jw_36).toInt32), wv, ga_, gb_, gc_, gd_, rfl, rfl⟩ dX8_bestRound_234
                  · skip
                    refine lv_iload_n hx hb dX8_bestRound_220 rfl (lv_at hl 1 rfl) ?_
                    refine lv_goto (tgt := 234) hx hb dX8_bestRound_221 (by decide) ?_
                    exact g_iret (Qr := (q_m_bestRound T n o le wh w0 g1 g2 g3 g4 tp w6 w7 w8 w9 w10 w11 w12 w13 w14 g15 w16 g17 w18 w19 g20 w21 g22 g23 g24 w25 w26 w27 g28 g29 w30 g31 g32 g33 fa fh fk fr fb)) hC V ⟨(Nat.le_of_ble_eq_true rfl), (Nat.le_of_ble_eq_true rfl)⟩ ⟨x69_3, wv, ga_, gb_, gc_, gd_, rfl, rfl⟩ dX8_bestRound_234
              · skip
                have c_42 := b_nle (by omega) (by omega) c_42
                refine lv_iload hx hb dX8_bestRound_84 (lv_at hl 0 rfl) ?_
                refine lv_i2l (v := (nI k69).toInt64) hx hb dX8_bestRound_86 rfl ?_
                refine g_callSU (nA := 1) hC V hl.1 (m_bitsOf l D T ((nI k69).toInt64)) w_1258 w_1259 w_9 w_1260 (by decide +kernel) rfl ⟨(Nat.le_of_ble_eq_true rfl), (Nat.le_of_ble_eq_true rfl)⟩ [] rfl rfl (Nat.le_of_ble_eq_true rfl) dX8_bestRound_87 ⟨(Nat.le_of_ble_eq_true rfl), (Nat.le_of_ble_eq_true rfl)⟩ rfl (fun r w1 H locs hQ V => ?_)
                obtain ⟨z_45, rfl, rfl⟩ := hQ
                have V : gW D T A s [(o, .inr (8, [.int (nI 0), .ref g1, .ref g2, .ref g3, .ref g4, .int (nI tp), .int w6, .int w7, .int w8, .int w9, .int w10, .int w11, .int w12, .int w13, .int w14, .ref g15, .int w16, .ref g17, .int w18, .int w19, .ref g20, .int wv, .ref g22, .ref g23, .ref g24, .int w25, .int w26, .int w27, .ref g28, .ref g29, .int w30, .ref g31, .ref g32, .ref g33])), (g1, .inl (T 0, 282, .inl fa)), (g15, .inl (T 0, 10, .inl ga_)), (g17, .inl (T 0, 94, .inl gb_)), (g20, .inl (T 1, 10, .inr (.inl gc_))), (g22, .inl (T 1, 10, .inr (.inl gd_)))] H locs := V _ [] rfl rfl rfl (by decide +kernel) rfl
                show W p l e _ s m args below meth c H locs _ _ _ (F0 m 90 ls [.int z_45])
                refine lv_istore (lv' := [(5, .int z_45), (4, .int (nI k69)), (3, .int x69_3), (0, .ref o), (1, .int (nI i)), (2, .int wh)]) hx hb dX8_bestRound_90 hl (by decide) rfl (fun ls hl => ?_)
                refine lv_iload_n hx hb dX8_bestRound_92 rfl (lv_at hl 2 rfl) ?_
                refine lv_iconst (v := (-1)) hx hb dX8_bestRound_93 (by decide +kernel) ?_
                refine lv_icmp_eq (tgt := 106) hx hb dX8_bestRound_94 (by decide) (fun c_46 => ?_) (fun c_46 => ?_)
                · skip
                  refine lv_iconst (v := (nI 0)) hx hb dX8_bestRound_106 (by decide +kernel) ?_
                  refine lv_istore (lv' := [(6, .int (nI 0)), (5, .int z_45), (4, .int (nI k69)), (3, .int x69_3), (0, .ref o), (1, .int (nI i)), (2, .int wh)]) hx hb dX8_bestRound_107 hl (by decide) rfl (fun ls hl => ?_)
                  have L_47 : ∀ (fu : Nat) (k109 : Nat) (ge_ : Nat → Int64), k109 ≤ n → n - k109 < fu → ∀ (H : Heap) (locs : List Loc) (ls : Array Slot), gW D T A s [(o, .inr (8, [.int (nI 0), .ref g1, .ref g2, .ref g3, .ref g4, .int (nI tp), .int w6, .int w7, .int w8, .int w9, .int w10, .int w11, .int w12, .int w13, .int w14, .ref g15, .int w16, .ref g17, .int w18, .int w19, .ref g20, .int wv, .ref g22, .ref g23, .ref g24, .int w25, .int w26, .int w27, .ref g28, .ref g29, .int w30, .ref g31, .ref g32, .ref g33])), (g1, .inl (T 0, 282, .inl fa)), (g15, .inl (T 0, 10, .inl ga_)), (g17, .inl (T 0, 94, .inl gb_)), (g20, .inl (T 1, 10, .inr (.inl ge_))), (g22, .inl (T 1, 10, .inr (.inl gd_)))] H locs → lv_has ls 7 [(6, .int (nI k109)), (5, .int z_45), (4, .int (nI k69)), (3, .int x69_3), (0, .ref o), (1, .int (nI i)), (2, .int wh)] → W p l e (rmD 4 0 0) s m args below meth c H locs 0 0 (MQ below (gQ D A (q_m_bestRound T n o le wh w0 g1 g2 g3 g4 tp w6 w7 w8 w9 w10 w11 w12 w13 w14 g15 w16 g17 w18 w19 g20 w21 g22 g23 g24 w25 w26 w27 g28 g29 w30 g31 g32 g33 fa fh fk fr fb)) args s 0 0 A) (F0 m 109 ls []) := by
                    intro fu_109
                    induction fu_109 with
                    | zero => intro k109 ge_ hk109 hmu; exact absurd hmu (Nat.not_lt_zero _)
                    | succ fu_109 ih_109 =>
                      intro k109 ge_ hk109 hmu_109 H locs ls V hl
                      refine lv_iload hx hb dX8_bestRound_109 (lv_at hl 0 rfl) ?_
                      refine lv_aload_n hx hb dX8_bestRound_111 rfl (lv_at hl 4 rfl) ?_
                      refine g_get hC V (ci := 8) uwX8 0 rfl rfl 1 (by decide) w_913 rfl rfl dX8_bestRound_112 ?_
                      refine lv_iconst (v := (nI 0)) hx hb dX8_bestRound_115 (by decide +kernel) ?_
                      refine g_iald hC V 1 rfl (vp_in_nI (by decide) (by decide)) (v := (nI n)) (by rw [nI_clamp (by decide)]; first | rfl | exact h_a.2.1) dX8_bestRound_116 ?_
                      refine lv_icmp_ge (tgt := 156) hx hb dX8_bestRound_117 (by decide) (fun c_48 => ?_) (fun c_48 => ?_)
                      · skip
                        have c_48 := b_le (by omega) (by omega) c_48
                        refine lv_aload_n hx hb dX8_bestRound_156 rfl (lv_at hl 4 rfl) ?_
                        refine lv_iload_n hx hb dX8_bestRound_157 rfl (lv_at hl 5 rfl) ?_
                        refine g_callVU (nA := 1) hC V hl.1 (m_holdsBy l D T n o i (nI 0) g1 g2 g3 g4 tp w6 w7 w8 w9 w10 w11 w12 w13 w14 g15 w16 g17 w18 w19 g20 wv g22 g23 g24 w25 w26 w27 g28 g29 w30 g31 g32 g33 fa ga_ gb_ ge_ h_a ⟨by omega, by omega⟩) w_1229 w_1231 w_s64 w_9 w_1232 (by decide +kernel) rfl ⟨(Nat.le_of_ble_eq_true rfl), (Nat.le_of_ble_eq_true rfl)⟩ 0 (ci := 8) rfl rfl [0, 1, 2, 3, 4] rfl rfl (Nat.le_of_ble_eq_true rfl) dX8_bestRound_158 ⟨(Nat.le_of_ble_eq_true rfl), (Nat.le_of_ble_eq_true rfl)⟩ rfl (fun r w1 H locs hQ V => ?_)
                        obtain ⟨z_49, wq_50, gh_51, gk_52, rfl, rfl⟩ := hQ
                        have V : gW D T A s [(o, .inr (8, [.int (nI 0), .ref g1, .ref g2, .ref g3, .ref g4, .int (nI tp), .int w6, .int w7, .int w8, .int w9, .int w10, .int w11, .int w12, .int w13, .int w14, .ref g15, .int w16, .ref g17, .int w18, .int w19, .ref g20, .int wq_50, .ref g22, .ref g23, .ref g24, .int w25, .int w26, .int w27, .ref g28, .ref g29, .int w30, .ref g31, .ref g32, .ref g33])), (g1, .inl (T 0, 282, .inl fa)), (g15, .inl (T 0, 10, .inl gh_51)), (g17, .inl (T 0, 94, .inl gk_52)), (g20, .inl (T 1, 10, .inr (.inl ge_))), (g22, .inl (T 1, 10, .inr (.inl gd_)))] H locs := V _ [0, 0, 0, 0, 0] rfl rfl rfl (by decide +kernel) rfl
                        show W p l e _ s m args below meth c H locs _ _ _ (F0 m 161 ls [.int z_49])
                        refine lv_iconst (v := (-1)) hx hb dX8_bestRound_161 (by decide +kernel) ?_
                        refine lv_icmp_eq (tgt := 168) hx hb dX8_bestRound_162 (by decide) (fun c_53 => ?_) (fun c_53 => ?_)
                        · skip
                          refine lv_iload hx hb dX8_bestRound_168 (lv_at hl 1 rfl) ?_
                          refine lv_istore_n (lv' := [(3, .int z_45), (6, .int (nI k109)), (5, .int z_45), (4, .int (nI k69)), (0, .ref o), (1, .int (nI i)), (2, .int wh)]) hx hb dX8_bestRound_170 rfl hl (by decide) rfl (fun ls hl => ?_)
                          refine lv_iconst (v := (nI 0)) hx hb dX8_bestRound_171 (by decide +kernel) ?_
                          refine lv_istore (lv' := [(6, .int (nI 0)), (3, .int z_45), (5, .int z_45), (4, .int (nI k69)), (0, .ref o), (1, .int (nI i)), (2, .int wh)]) hx hb dX8_bestRound_172 hl (by decide) rfl (fun ls hl => ?_)
                          have L_54 : ∀ (fu : Nat) (k174 : Nat) (gf_ : Nat → Int64), k174 ≤ n → n - k174 < fu → ∀ (H : Heap) (locs : List Loc) (ls : Array Slot), gW D T A s [(o, .inr (8, [.int (nI 0), .ref g1, .ref g2, .ref g3, .ref g4, .int (nI tp), .int w6, .int w7, .int w8, .int w9, .int w10, .int w11, .int w12, .int w13, .int w14, .ref g15, .int w16, .ref g17, .int w18, .int w19, .ref g20, .int wq_50, .ref g22, .ref g23, .ref g24, .int w25, .int w26, .int w27, .ref g28, .ref g29, .int w30, .ref g31, .ref g32, .ref g33])), (g1, .inl (T 0, 282, .inl fa)), (g15, .inl (T 0, 10, .inl gh_51)), (g17, .inl (T 0, 94, .inl gk_52)), (g20, .inl (T 1, 10, .inr (.inl ge_))), (g22, .inl (T 1, 10, .inr (.inl gf_)))] H locs → lv_has ls 7 [(6, .int (nI k174)), (3, .int z_45), (5, .int z_45), (4, .int (nI k69)), (0, .ref o), (1, .int (nI i)), (2, .int wh)] → W p l e (rmD 4 0 0) s m args below meth c H locs 0 0 (MQ below (gQ D A (q_m_bestRound T n o le wh w0 g1 g2 g3 g4 tp w6 w7 w8 w9 w10 w11 w12 w13 w14 g15 w16 g17 w18 w19 g20 w21 g22 g23 g24 w25 w26 w27 g28 g29 w30 g31 g32 g33 fa fh fk fr fb)) args s 0 0 A) (F0 m 174 ls []) := by
                            intro fu_174
                            induction fu_174 with
                            | zero => intro k174 gf_ hk174 hmu; exact absurd hmu (Nat.not_lt_zero _)
                            | succ fu_174 ih_174 =>
                              intro k174 gf_ hk174 hmu_174 H locs ls V hl
                              refine lv_iload hx hb dX8_bestRound_174 (lv_at hl 0 rfl) ?_
                              refine lv_aload_n hx hb dX8_bestRound_176 rfl (lv_at hl 4 rfl) ?_
                              refine g_get hC V (ci := 8) uwX8 0 rfl rfl 1 (by decide) w_913 rfl rfl dX8_bestRound_177 ?_
                              refine lv_iconst (v := (nI 0)) hx hb dX8_bestRound_180 (by decide +kernel) ?_
                              refine g_iald hC V 1 rfl (vp_in_nI (by decide) (by decide)) (v := (nI n)) (by rw [nI_clamp (by decide)]; first | rfl | exact h_a.2.1) dX8_bestRound_181 ?_
                              refine lv_icmp_ge (tgt := 205) hx hb dX8_bestRound_182 (by decide) (fun c_55 => ?_) (fun c_55 => ?_)
                              · skip
                                have c_55 := b_le (by omega) (by omega) c_55
                                refine lv_iinc (v := (nI (k69 + 1))) (lv' := [(4, .int (nI (k69 + 1))), (6, .int (nI k174)), (3, .int z_45), (5, .int z_45), (0, .ref o), (1, .int (nI i)), (2, .int wh)]) hx hb dX8_bestRound_205 hl (k := 3) rfl (nI_1 _) (by decide) rfl (fun ls hl => ?_)
                                refine lv_goto (tgt := 69) hx hb dX8_bestRound_208 (by decide) ?_
                                exact ih_69 (k69 + 1) z_45 wq_50 gh_51 gk_52 ge_ gf_ (by omega) (by omega) _ _ _ V (lv_sub hl [0, 2, 4, 5, 6] rfl)
                              · skip
                                have c_55 := b_nle (by omega) (by omega) c_55
                                refine lv_aload_n hx hb dX8_bestRound_185 rfl (lv_at hl 4 rfl) ?_
                                refine g_get hC V (ci := 8) uwX8 0 rfl rfl 22 (by decide) w_934 rfl rfl dX8_bestRound_186 ?_
                                refine lv_iload hx hb dX8_bestRound_189 (lv_at hl 0 rfl) ?_
                                refine lv_aload_n hx hb dX8_bestRound_191 rfl (lv_at hl 4 rfl) ?_
                                refine g_get hC V (ci := 8) uwX8 0 rfl rfl 20 (by decide) w_932 rfl rfl dX8_bestRound_192 ?_
                                refine lv_iload hx hb dX8_bestRound_195 (lv_at hl 0 rfl) ?_
                                refine g_lald hC V 4 rfl (vp_in_nI (by omega) (by omega)) (v := (ge_ k174)) (congrArg _ (nI_clamp (by omega))) dX8_bestRound_197 ?_
                                refine g_last hC V 5 rfl (vp_in_nI (by omega) (by omega)) (f' := (vp_updL gf_ k174 (ge_ k174))) (by rw [nI_clamp (by omega)]) (ws' := [(o, .inr (8, [.int (nI 0), .ref g1, .ref g2, .ref g3, .ref g4, .int (nI tp), .int w6, .int w7, .int w8, .int w9, .int w10, .int w11, .int w12, .int w13, .int w14, .ref g15, .int w16, .ref g17, .int w18, .int w19, .ref g20, .int wq_50, .ref g22, .ref g23, .ref g24, .int w25, .int w26, .int w27, .ref g28, .ref g29, .int w30, .ref g31, .ref g32, .ref g33])), (g1, .inl (T 0, 282, .inl fa)), (g15, .inl (T 0, 10, .inl gh_51)), (g17, .inl (T 0, 94, .inl gk_52)), (g20, .inl (T 1, 10, .inr (.inl ge_))), (g22, .inl (T 1, 10, .inr (.inl (vp_updL gf_ k174 (ge_ k174)))))]) rfl dX8_bestRound_198 (fun H locs V => ?_)
                                refine lv_iinc (v := (nI (k174 + 1))) (lv' := [(6, .int (nI (k174 + 1))), (3, .int z_45), (5, .int z_45), (4, .int (nI k69)), (0, .ref o), (1, .int (nI i)), (2, .int wh)]) hx hb dX8_bestRound_199 hl (k := 0) rfl (nI_1 _) (by decide) rfl (fun ls hl => ?_)
                                refine lv_goto (tgt := 174) hx hb dX8_bestRound_202 (by decide) ?_
                                exact ih_174 (k174 + 1) (vp_updL gf_ k174 (ge_ k174)) (by omega) (by omega) _ _ _ V (lv_sub hl [0, 1, 2, 3, 4, 5, 6] rfl)
                          exact L_54 _ 0 gd_ (by omega) (Nat.lt_succ_self _) _ _ _ V (lv_sub hl [0, 1, 2, 3, 4, 5, 6] rfl)
                        · skip
                          refine lv_goto (tgt := 205) hx hb dX8_bestRound_165 (by decide) ?_
                          refine lv_iinc (v := (nI (k69 + 1))) (lv' := [(4, .int (nI (k69 + 1))), (6, .int (nI k109)), (5, .int z_45), (3, .int x69_3), (0, .ref o), (1, .int (nI i)), (2, .int wh)]) hx hb dX8_bestRound_205 hl (k := 2) rfl (nI_1 _) (by decide) rfl (fun ls hl => ?_)
                          refine lv_goto (tgt := 69) hx hb dX8_bestRound_208 (by decide) ?_
                          exact ih_69 (k69 + 1) x69_3 wq_50 gh_51 gk_52 ge_ gd_ (by omega) (by omega) _ _ _ V (lv_sub hl [0, 3, 4, 5, 6] rfl)
                      · skip
                        have c_48 := b_nle (by omega) (by omega) c_48
                        refine lv_aload_n hx hb dX8_bestRound_120 rfl (lv_at hl 4 rfl) ?_
                        refine g_get hC V (ci := 8) uwX8 0 rfl rfl 20 (by decide) w_932 rfl rfl dX8_bestRound_121 ?_
                        refine lv_iload hx hb dX8_bestRound_124 (lv_at hl 0 rfl) ?_
                        refine lv_iload hx hb dX8_bestRound_126 (lv_at hl 2 rfl) ?_
                        refine lv_aload_n hx hb dX8_bestRound_128 rfl (lv_at hl 4 rfl) ?_
                        refine g_get hC V (ci := 8) uwX8 0 rfl rfl 1 (by decide) w_913 rfl rfl dX8_bestRound_129 ?_
                        refine lv_iconst (v := (nI 0)) hx hb dX8_bestRound_132 (by decide +kernel) ?_
                        refine g_iald hC V 1 rfl (vp_in_nI (by decide) (by decide)) (v := (nI n)) (by rw [nI_clamp (by decide)]; first | rfl | exact h_a.2.1) dX8_bestRound_133 ?_
                        refine lv_iconst (v := (nI 1)) hx hb dX8_bestRound_134 (by decide +kernel) ?_
                        refine lv_isub hx hb dX8_bestRound_135 ?_
                        refine lv_iload hx hb dX8_bestRound_136 (lv_at hl 0 rfl) ?_
                        refine lv_isub hx hb dX8_bestRound_138 ?_
                        refine lv_iload_n hx hb dX8_bestRound_139 rfl (lv_at hl 5 rfl) ?_
                        refine lv_imul hx hb dX8_bestRound_140 ?_
                        refine lv_ishr hx hb dX8_bestRound_141 ?_
                        refine lv_topi (fun x_56 ex_56 => ?_)
                        refine lv_iconst (v := (nI 1)) hx hb dX8_bestRound_142 (by decide +kernel) ?_
                        refine lv_iload_n hx hb dX8_bestRound_143 rfl (lv_at hl 5 rfl) ?_
                        refine lv_ishl hx hb dX8_bestRound_144 ?_
                        refine lv_iconst (v := (nI 1)) hx hb dX8_bestRound_145 (by decide +kernel) ?_
                        refine lv_isub hx hb dX8_bestRound_146 ?_
                        refine lv_iand hx hb dX8_bestRound_147 ?_
                        refine lv_i2l (v := (x_56 &&& (((nI 1) <<< ((nI i) &&& 31)) - (nI 1))).toInt64) hx hb dX8_bestRound_148 rfl ?_
                        refine g_last hC V 4 rfl (vp_in_nI (by omega) (by omega)) (f' := (vp_updL ge_ k109 ((x_56 &&& (((nI 1) <<< ((nI i) &&& 31)) - (nI 1))).toInt64))) (by rw [nI_clamp (by omega)]) (ws' := [(o, .inr (8, [.int (nI 0), .ref g1, .ref g2, .ref g3, .ref g4, .int (nI tp), .int w6, .int w7, .int w8, .int w9, .int w10, .int w11, .int w12, .int w13, .int w14, .ref g15, .int w16, .ref g17, .int w18, .int w19, .ref g20, .int wv, .ref g22, .ref g23, .ref g24, .int w25, .int w26, .int w27, .ref g28, .ref g29, .int w30, .ref g31, .ref g32, .ref g33])), (g1, .inl (T 0, 282, .inl fa)), (g15, .inl (T 0, 10, .inl ga_)), (g17, .inl (T 0, 94, .inl gb_)), (g20, .inl (T 1, 10, .inr (.inl (vp_updL ge_ k109 ((x_56 &&& (((nI 1) <<< ((nI i) &&& 31)) - (nI 1))).toInt64))))), (g22, .inl (T 1, 10, .inr (.inl gd_)))]) rfl dX8_bestRound_149 (fun H locs V => ?_)
                        refine lv_iinc (v := (nI (k109 + 1))) (lv' := [(6, .int (nI (k109 + 1))), (5, .int z_45), (4, .int (nI k69)), (3, .int x69_3), (0, .ref o), (1, .int (nI i)), (2, .int wh)]) hx hb dX8_bestRound_150 hl (k := 0) rfl (nI_1 _) (by decide) rfl (fun ls hl => ?_)
                        refine lv_goto (tgt := 109) hx hb dX8_bestRound_153 (by decide) ?_
                        exact ih_109 (k109 + 1) (vp_updL ge_ k109 ((x_56 &&& (((nI 1) <<< ((nI i) &&& 31)) - (nI 1))).toInt64)) (by omega) (by omega) _ _ _ V (lv_sub hl [0, 1, 2, 3, 4, 5, 6] rfl)
                  exact L_47 _ 0 gc_ (by omega) (Nat.lt_succ_self _) _ _ _ V (lv_sub hl [0, 1, 2, 3, 4, 5, 6] rfl)
                · skip
                  refine lv_iload hx hb dX8_bestRound_97 (lv_at hl 0 rfl) ?_
                  refine lv_iload_n hx hb dX8_bestRound_99 rfl (lv_at hl 2 rfl) ?_
                  refine lv_icmp_lt (tgt := 106) hx hb dX8_bestRound_100 (by decide) (fun c_57 => ?_) (fun c_57 => ?_)
                  · skip
                    refine lv_iconst (v := (nI 0)) hx hb dX8_bestRound_106 (by decide +kernel) ?_
                    refine lv_istore (lv' := [(6, .int (nI 0)), (5, .int z_45), (4, .int (nI k69)), (3, .int x69_3), (0, .ref o), (1, .int (nI i)), (2, .int wh)]) hx hb dX8_bestRound_107 hl (by decide) rfl (fun ls hl => ?_)
                    have L_58 : ∀ (fu : Nat) (k109 : Nat) (ge_ : Nat → Int64), k109 ≤ n → n - k109 < fu → ∀ (H : Heap) (locs : List Loc) (ls : Array Slot), gW D T A s [(o, .inr (8, [.int (nI 0), .ref g1, .ref g2, .ref g3, .ref g4, .int (nI tp), .int w6, .int w7, .int w8, .int w9, .int w10, .int w11, .int w12, .int w13, .int w14, .ref g15, .int w16, .ref g17, .int w18, .int w19, .ref g20, .int wv, .ref g22, .ref g23, .ref g24, .int w25, .int w26, .int w27, .ref g28, .ref g29, .int w30, .ref g31, .ref g32, .ref g33])), (g1, .inl (T 0, 282, .inl fa)), (g15, .inl (T 0, 10, .inl ga_)), (g17, .inl (T 0, 94, .inl gb_)), (g20, .inl (T 1, 10, .inr (.inl ge_))), (g22, .inl (T 1, 10, .inr (.inl gd_)))] H locs → lv_has ls 7 [(6, .int (nI k109)), (5, .int z_45), (4, .int (nI k69)), (3, .int x69_3), (0, .ref o), (1, .int (nI i)), (2, .int wh)] → W p l e (rmD 4 0 0) s m args below meth c H locs 0 0 (MQ below (gQ D A (q_m_bestRound T n o le wh w0 g1 g2 g3 g4 tp w6 w7 w8 w9 w10 w11 w12 w13 w14 g15 w16 g17 w18 w19 g20 w21 g22 g23 g24 w25 w26 w27 g28 g29 w30 g31 g32 g33 fa fh fk fr fb)) args s 0 0 A) (F0 m 109 ls []) := by
                      intro fu_109
                      induction fu_109 with
                      | zero => intro k109 ge_ hk109 hmu; exact absurd hmu (Nat.not_lt_zero _)
                      | succ fu_109 ih_109 =>
                        intro k109 ge_ hk109 hmu_109 H locs ls V hl
                        refine lv_iload hx hb dX8_bestRound_109 (lv_at hl 0 rfl) ?_
                        refine lv_aload_n hx hb dX8_bestRound_111 rfl (lv_at hl 4 rfl) ?_
                        refine g_get hC V (ci := 8) uwX8 0 rfl rfl 1 (by decide) w_913 rfl rfl dX8_bestRound_112 ?_
                        refine lv_iconst (v := (nI 0)) hx hb dX8_bestRound_115 (by decide +kernel) ?_
                        refine g_iald hC V 1 rfl (vp_in_nI (by decide) (by decide)) (v := (nI n)) (by rw [nI_clamp (by decide)]; first | rfl | exact h_a.2.1) dX8_bestRound_116 ?_
                        refine lv_icmp_ge (tgt := 156) hx hb dX8_bestRound_117 (by decide) (fun c_59 => ?_) (fun c_59 => ?_)
                        · skip
                          have c_59 := b_le (by omega) (by omega) c_59
                          refine lv_aload_n hx hb dX8_bestRound_156 rfl (lv_at hl 4 rfl) ?_
                          refine lv_iload_n hx hb dX8_bestRound_157 rfl (lv_at hl 5 rfl) ?_
                          refine g_callVU (nA := 1) hC V hl.1 (m_holdsBy l D T n o i (nI 0) g1 g2 g3 g4 tp w6 w7 w8 w9 w10 w11 w12 w13 w14 g15 w16 g17 w18 w19 g20 wv g22 g23 g24 w25 w26 w27 g28 g29 w30 g31 g32 g33 fa ga_ gb_ ge_ h_a ⟨by omega, by omega⟩) w_1229 w_1231 w_s64 w_9 w_1232 (by decide +kernel) rfl ⟨(Nat.le_of_ble_eq_true rfl), (Nat.le_of_ble_eq_true rfl)⟩ 0 (ci := 8) rfl rfl [0, 1, 2, 3, 4] rfl rfl (Nat.le_of_ble_eq_true rfl) dX8_bestRound_158 ⟨(Nat.le_of_ble_eq_true rfl), (Nat.le_of_ble_eq_true rfl)⟩ rfl (fun r w1 H locs hQ V => ?_)
                          obtain ⟨z_60, wq_61, gh_62, gk_63, rfl, rfl⟩ := hQ
                          have V : gW D T A s [(o, .inr (8, [.int (nI 0), .ref g1, .ref g2, .ref g3, .ref g4, .int (nI tp), .int w6, .int w7, .int w8, .int w9, .int w10, .int w11, .int w12, .int w13, .int w14, .ref g15, .int w16, .ref g17, .int w18, .int w19, .ref g20, .int wq_61, .ref g22, .ref g23, .ref g24, .int w25, .int w26, .int w27, .ref g28, .ref g29, .int w30, .ref g31, .ref g32, .ref g33])), (g1, .inl (T 0, 282, .inl fa)), (g15, .inl (T 0, 10, .inl gh_62)), (g17, .inl (T 0, 94, .inl gk_63)), (g20, .inl (T 1, 10, .inr (.inl ge_))), (g22, .inl (T 1, 10, .inr (.inl gd_)))] H locs := V _ [0, 0, 0, 0, 0] rfl rfl rfl (by decide +kernel) rfl
                          show W p l e _ s m args below meth c H locs _ _ _ (F0 m 161 ls [.int z_60])
                          refine lv_iconst (v := (-1)) hx hb dX8_bestRound_161 (by decide +kernel) ?_
                          refine lv_icmp_eq (tgt := 168) hx hb dX8_bestRound_162 (by decide) (fun c_64 => ?_) (fun c_64 => ?_)
                          · skip
                            refine lv_iload hx hb dX8_bestRound_168 (lv_at hl 1 rfl) ?_
                            refine lv_istore_n (lv' := [(3, .int z_45), (6, .int (nI k109)), (5, .int z_45), (4, .int (nI k69)), (0, .ref o), (1, .int (nI i)), (2, .int wh)]) hx hb dX8_bestRound_170 rfl hl (by decide) rfl (fun ls hl => ?_)
                            refine lv_iconst (v := (nI 0)) hx hb dX8_bestRound_171 (by decide +kernel) ?_
                            refine lv_istore (lv' := [(6, .int (nI 0)), (3, .int z_45), (5, .int z_45), (4, .int (nI k69)), (0, .ref o), (1, .int (nI i)), (2, .int wh)]) hx hb dX8_bestRound_172 hl (by decide) rfl (fun ls hl => ?_)
                            have L_65 : ∀ (fu : Nat) (k174 : Nat) (gf_ : Nat → Int64), k174 ≤ n → n - k174 < fu → ∀ (H : Heap) (locs : List Loc) (ls : Array Slot), gW D T A s [(o, .inr (8, [.int (nI 0), .ref g1, .ref g2, .ref g3, .ref g4, .int (nI tp), .int w6, .int w7, .int w8, .int w9, .int w10, .int w11, .int w12, .int w13, .int w14, .ref g15, .int w16, .ref g17, .int w18, .int w19, .ref g20, .int wq_61, .ref g22, .ref g23, .ref g24, .int w25, .int w26, .int w27, .ref g28, .ref g29, .int w30, .ref g31, .ref g32, .ref g33])), (g1, .inl (T 0, 282, .inl fa)), (g15, .inl (T 0, 10, .inl gh_62)), (g17, .inl (T 0, 94, .inl gk_63)), (g20, .inl (T 1, 10, .inr (.inl ge_))), (g22, .inl (T 1, 10, .inr (.inl gf_)))] H locs → lv_has ls 7 [(6, .int (nI k174)), (3, .int z_45), (5, .int z_45), (4, .int (nI k69)), (0, .ref o), (1, .int (nI i)), (2, .int wh)] → W p l e (rmD 4 0 0) s m args below meth c H locs 0 0 (MQ below (gQ D A (q_m_bestRound T n o le wh w0 g1 g2 g3 g4 tp w6 w7 w8 w9 w10 w11 w12 w13 w14 g15 w16 g17 w18 w19 g20 w21 g22 g23 g24 w25 w26 w27 g28 g29 w30 g31 g32 g33 fa fh fk fr fb)) args s 0 0 A) (F0 m 174 ls []) := by
                              intro fu_174
                              induction fu_174 with
                              | zero => intro k174 gf_ hk174 hmu; exact absurd hmu (Nat.not_lt_zero _)
                              | succ fu_174 ih_174 =>
                                intro k174 gf_ hk174 hmu_174 H locs ls V hl
                                refine lv_iload hx hb dX8_bestRound_174 (lv_at hl 0 rfl) ?_
                                refine lv_aload_n hx hb dX8_bestRound_176 rfl (lv_at hl 4 rfl) ?_
                                refine g_get hC V (ci := 8) uwX8 0 rfl rfl 1 (by decide) w_913 rfl rfl dX8_bestRound_177 ?_
                                refine lv_iconst (v := (nI 0)) hx hb dX8_bestRound_180 (by decide +kernel) ?_
                                refine g_iald hC V 1 rfl (vp_in_nI (by decide) (by decide)) (v := (nI n)) (by rw [nI_clamp (by decide)]; first | rfl | exact h_a.2.1) dX8_bestRound_181 ?_
                                refine lv_icmp_ge (tgt := 205) hx hb dX8_bestRound_182 (by decide) (fun c_66 => ?_) (fun c_66 => ?_)
                                · skip
                                  have c_66 := b_le (by omega) (by omega) c_66
                                  refine lv_iinc (v := (nI (k69 + 1))) (lv' := [(4, .int (nI (k69 + 1))), (6, .int (nI k174)), (3, .int z_45), (5, .int z_45), (0, .ref o), (1, .int (nI i)), (2, .int wh)]) hx hb dX8_bestRound_205 hl (k := 3) rfl (nI_1 _) (by decide) rfl (fun ls hl => ?_)
                                  refine lv_goto (tgt := 69) hx hb dX8_bestRound_208 (by decide) ?_
                                  exact ih_69 (k69 + 1) z_45 wq_61 gh_62 gk_63 ge_ gf_ (by omega) (by omega) _ _ _ V (lv_sub hl [0, 2, 4, 5, 6] rfl)
                                · skip
                                  have c_66 := b_nle (by omega) (by omega) c_66
                                  refine lv_aload_n hx hb dX8_bestRound_185 rfl (lv_at hl 4 rfl) ?_
                                  refine g_get hC V (ci := 8) uwX8 0 rfl rfl 22 (by decide) w_934 rfl rfl dX8_bestRound_186 ?_
                                  refine lv_iload hx hb dX8_bestRound_189 (lv_at hl 0 rfl) ?_
                                  refine lv_aload_n hx hb dX8_bestRound_191 rfl (lv_at hl 4 rfl) ?_
                                  refine g_get hC V (ci := 8) uwX8 0 rfl rfl 20 (by decide) w_932 rfl rfl dX8_bestRound_192 ?_
                                  refine lv_iload hx hb dX8_bestRound_195 (lv_at hl 0 rfl) ?_
                                  refine g_lald hC V 4 rfl (vp_in_nI (by omega) (by omega)) (v := (ge_ k174)) (congrArg _ (nI_clamp (by omega))) dX8_bestRound_197 ?_
                                  refine g_last hC V 5 rfl (vp_in_nI (by omega) (by omega)) (f' := (vp_updL gf_ k174 (ge_ k174))) (by rw [nI_clamp (by omega)]) (ws' := [(o, .inr (8, [.int (nI 0), .ref g1, .ref g2, .ref g3, .ref g4, .int (nI tp), .int w6, .int w7, .int w8, .int w9, .int w10, .int w11, .int w12, .int w13, .int w14, .ref g15, .int w16, .ref g17, .int w18, .int w19, .ref g20, .int wq_61, .ref g22, .ref g23, .ref g24, .int w25, .int w26, .int w27, .ref g28, .ref g29, .int w30, .ref g31, .ref g32, .ref g33])), (g1, .inl (T 0, 282, .inl fa)), (g15, .inl (T 0, 10, .inl gh_62)), (g17, .inl (T 0, 94, .inl gk_63)), (g20, .inl (T 1, 10, .inr (.inl ge_))), (g22, .inl (T 1, 10, .inr (.inl (vp_updL gf_ k174 (ge_ k174)))))]) rfl dX8_bestRound_198 (fun H locs V => ?_)
                                  refine lv_iinc (v := (nI (k174 + 1))) (lv' := [(6, .int (nI (k174 + 1))), (3, .int z_45), (5, .int z_45), (4, .int (nI k69)), (0, .ref o), (1, .int (nI i)), (2, .int wh)]) hx hb dX8_bestRound_199 hl (k := 0) rfl (nI_1 _) (by decide) rfl (fun ls hl => ?_)
                                  refine lv_goto (tgt := 174) hx hb dX8_bestRound_202 (by decide) ?_
                                  exact ih_174 (k174 + 1) (vp_updL gf_ k174 (ge_ k174)) (by omega) (by omega) _ _ _ V (lv_sub hl [0, 1, 2, 3, 4, 5, 6] rfl)
                            exact L_65 _ 0 gd_ (by omega) (Nat.lt_succ_self _) _ _ _ V (lv_sub hl [0, 1, 2, 3, 4, 5, 6] rfl)
                          · skip
                            refine lv_goto (tgt := 205) hx hb dX8_bestRound_165 (by decide) ?_
                            refine lv_iinc (v := (nI (k69 + 1))) (lv' := [(4, .int (nI (k69 + 1))), (6, .int (nI k109)), (5, .int z_45), (3, .int x69_3), (0, .ref o), (1, .int (nI i)), (2, .int wh)]) hx hb dX8_bestRound_205 hl (k := 2) rfl (nI_1 _) (by decide) rfl (fun ls hl => ?_)
                            refine lv_goto (tgt := 69) hx hb dX8_bestRound_208 (by decide) ?_
                            exact ih_69 (k69 + 1) x69_3 wq_61 gh_62 gk_63 ge_ gd_ (by omega) (by omega) _ _ _ V (lv_sub hl [0, 3, 4, 5, 6] rfl)
                        · skip
                          have c_59 := b_nle (by omega) (by omega) c_59
                          refine lv_aload_n hx hb dX8_bestRound_120 rfl (lv_at hl 4 rfl) ?_
                          refine g_get hC V (ci := 8) uwX8 0 rfl rfl 20 (by decide) w_932 rfl rfl dX8_bestRound_121 ?_
                          refine lv_iload hx hb dX8_bestRound_124 (lv_at hl 0 rfl) ?_
                          refine lv_iload hx hb dX8_bestRound_126 (lv_at hl 2 rfl) ?_
                          refine lv_aload_n hx hb dX8_bestRound_128 rfl (lv_at hl 4 rfl) ?_
                          refine g_get hC V (ci := 8) uwX8 0 rfl rfl 1 (by decide) w_913 rfl rfl dX8_bestRound_129 ?_
                          refine lv_iconst (v := (nI 0)) hx hb dX8_bestRound_132 (by decide +kernel) ?_
                          refine g_iald hC V 1 rfl (vp_in_nI (by decide) (by decide)) (v := (nI n)) (by rw [nI_clamp (by decide)]; first | rfl | exact h_a.2.1) dX8_bestRound_133 ?_
                          refine lv_iconst (v := (nI 1)) hx hb dX8_bestRound_134 (by decide +kernel) ?_
                          refine lv_isub hx hb dX8_bestRound_135 ?_
                          refine lv_iload hx hb dX8_bestRound_136 (lv_at hl 0 rfl) ?_
                          refine lv_isub hx hb dX8_bestRound_138 ?_
                          refine lv_iload_n hx hb dX8_bestRound_139 rfl (lv_at hl 5 rfl) ?_
                          refine lv_imul hx hb dX8_bestRound_140 ?_
                          refine lv_ishr hx hb dX8_bestRound_141 ?_
                          refine lv_topi (fun x_67 ex_67 => ?_)
                          refine lv_iconst (v := (nI 1)) hx hb dX8_bestRound_142 (by decide +kernel) ?_
                          refine lv_iload_n hx hb dX8_bestRound_143 rfl (lv_at hl 5 rfl) ?_
                          refine lv_ishl hx hb dX8_bestRound_144 ?_
                          refine lv_iconst (v := (nI 1)) hx hb dX8_bestRound_145 (by decide +kernel) ?_
                          refine lv_isub hx hb dX8_bestRound_146 ?_
                          refine lv_iand hx hb dX8_bestRound_147 ?_
                          refine lv_i2l (v := (x_67 &&& (((nI 1) <<< ((nI i) &&& 31)) - (nI 1))).toInt64) hx hb dX8_bestRound_148 rfl ?_
                          refine g_last hC V 4 rfl (vp_in_nI (by omega) (by omega)) (f' := (vp_updL ge_ k109 ((x_67 &&& (((nI 1) <<< ((nI i) &&& 31)) - (nI 1))).toInt64))) (by rw [nI_clamp (by omega)]) (ws' := [(o, .inr (8, [.int (nI 0), .ref g1, .ref g2, .ref g3, .ref g4, .int (nI tp), .int w6, .int w7, .int w8, .int w9, .int w10, .int w11, .int w12, .int w13, .int w14, .ref g15, .int w16, .ref g17, .int w18, .int w19, .ref g20, .int wv, .ref g22, .ref g23, .ref g24, .int w25, .int w26, .int w27, .ref g28, .ref g29, .int w30, .ref g31, .ref g32, .ref g33])), (g1, .inl (T 0, 282, .inl fa)), (g15, .inl (T 0, 10, .inl ga_)), (g17, .inl (T 0, 94, .inl gb_)), (g20, .inl (T 1, 10, .inr (.inl (vp_updL ge_ k109 ((x_67 &&& (((nI 1) <<< ((nI i) &&& 31)) - (nI 1))).toInt64))))), (g22, .inl (T 1, 10, .inr (.inl gd_)))]) rfl dX8_bestRound_149 (fun H locs V => ?_)
                          refine lv_iinc (v := (nI (k109 + 1))) (lv' := [(6, .int (nI (k109 + 1))), (5, .int z_45), (4, .int (nI k69)), (3, .int x69_3), (0, .ref o), (1, .int (nI i)), (2, .int wh)]) hx hb dX8_bestRound_150 hl (k := 0) rfl (nI_1 _) (by decide) rfl (fun ls hl => ?_)
                          refine lv_goto (tgt := 109) hx hb dX8_bestRound_153 (by decide) ?_
                          exact ih_109 (k109 + 1) (vp_updL ge_ k109 ((x_67 &&& (((nI 1) <<< ((nI i) &&& 31)) - (nI 1))).toInt64)) (by omega) (by omega) _ _ _ V (lv_sub hl [0, 1, 2, 3, 4, 5, 6] rfl)
                    exact L_58 _ 0 gc_ (by omega) (Nat.lt_succ_self _) _ _ _ V (lv_sub hl [0, 1, 2, 3, 4, 5, 6] rfl)
                  · skip
                    refine lv_goto (tgt := 205) hx hb dX8_bestRound_103 (by decide) ?_
                    refine lv_iinc (v := (nI (k69 + 1))) (lv' := [(4, .int (nI (k69 + 1))), (5, .int z_45), (3, .int x69_3), (0, .ref o), (1, .int (nI i)), (2, .int wh)]) hx hb dX8_bestRound_205 hl (k := 1) rfl (nI_1 _) (by decide) rfl (fun ls hl => ?_)
                    refine lv_goto (tgt := 69) hx hb dX8_bestRound_208 (by decide) ?_
                    exact ih_69 (k69 + 1) x69_3 wv ga_ gb_ gc_ gd_ (by omega) (by omega) _ _ _ V (lv_sub hl [0, 2, 3, 4, 5] rfl)
          exact L_41 _ 0 (-1) w21 fh fk fr fb (by omega) (Nat.lt_succ_self _) _ _ _ V (lv_sub hl [0, 1, 2, 3, 4] rfl)
        · skip
          have c_40 := b_nle (by omega) (by omega) c_40
          refine lv_bipush (v := (-4)) hx hb dX8_bestRound_61 (by decide +kernel) ?_
          exact g_iret (Qr := (q_m_bestRound T n o le wh w0 g1 g2 g3 g4 tp w6 w7 w8 w9 w10 w11 w12 w13 w14 g15 w16 g17 w18 w19 g20 w21 g22 g23 g24 w25 w26 w27 g28 g29 w30 g31 g32 g33 fa fh fk fr fb)) hC V ⟨(Nat.le_of_ble_eq_true rfl), (Nat.le_of_ble_eq_true rfl)⟩ ⟨(-4), w21, fh, fk, fr, fb, rfl, rfl⟩ dX8_bestRound_63
      · have V : gW D T A s [(o, .inr (8, [.int (nI 0), .ref g1, .ref g2, .ref g3, .ref g4, .int (nI tp), .int w6, .int w7, .int w8, .int w9, .int w10, .int w11, .int w12, .int w13, .int w14, .ref g15, .int w16, .ref g17, .int w18, .int w19, .ref g20, .int w21, .ref g22, .ref g23, .ref g24, .int w25, .int w26, .int w27, .ref g28, .ref g29, .int w30, .ref g31, .ref g32, .ref g33])), (g1, .inl (T 0, 282, .inl fa)), (g15, .inl (T 0, 10, .inl fh)), (g17, .inl (T 0, 94, .inl fk)), (g20, .inl (T 1, 10, .inr (.inl fr))), (g22, .inl (T 1, 10, .inr (.inl fb)))] H locs := V _ [] rfl rfl rfl (by decide +kernel) rfl
        show W p l e _ s m args below meth c H locs _ _ _ (F0 m 42 ls [.int (nI 0)])
        refine lv_if_ne (tgt := 48) hx hb dX8_bestRound_42 (by decide) (fun c => absurd (show (nI 0) = 0 by decide +kernel) c) (fun _ => ?_)
        refine lv_bipush (v := (-3)) hx hb dX8_bestRound_45 (by decide +kernel) ?_
        exact g_iret (Qr := (q_m_bestRound T n o le wh w0 g1 g2 g3 g4 tp w6 w7 w8 w9 w10 w11 w12 w13 w14 g15 w16 g17 w18 w19 g20 w21 g22 g23 g24 w25 w26 w27 g28 g29 w30 g31 g32 g33 fa fh fk fr fb)) hC V ⟨(Nat.le_of_ble_eq_true rfl), (Nat.le_of_ble_eq_true rfl)⟩ ⟨(-3), w21, fh, fk, fr, fb, rfl, rfl⟩ dX8_bestRound_47
    · have V : gW D T A s [(o, .inr (8, [.int (nI 0), .ref g1, .ref g2, .ref g3, .ref g4, .int (nI tp), .int w6, .int w7, .int w8, .int w9, .int w10, .int w11, .int w12, .int w13, .int w14, .ref g15, .int w16, .ref g17, .int w18, .int w19, .ref g20, .int w21, .ref g22, .ref g23, .ref g24, .int w25, .int w26, .int w27, .ref g28, .ref g29, .int w30, .ref g31, .ref g32, .ref g33])), (g1, .inl (T 0, 282, .inl fa)), (g15, .inl (T 0, 10, .inl fh)), (g17, .inl (T 0, 94, .inl fk)), (g20, .inl (T 1, 10, .inr (.inl fr))), (g22, .inl (T 1, 10, .inr (.inl fb)))] H locs := V _ [] rfl rfl rfl (by decide +kernel) rfl
      show W p l e _ s m args below meth c H locs _ _ _ (F0 m 27 ls [.int (nI 0)])
      refine lv_if_ne (tgt := 33) hx hb dX8_bestRound_27 (by decide) (fun c => absurd (show (nI 0) = 0 by decide +kernel) c) (fun _ => ?_)
      refine lv_bipush (v := (-2)) hx hb dX8_bestRound_30 (by decide +kernel) ?_
      exact g_iret (Qr := (q_m_bestRound T n o le wh w0 g1 g2 g3 g4 tp w6 w7 w8 w9 w10 w11 w12 w13 w14 g15 w16 g17 w18 w19 g20 w21 g22 g23 g24 w25 w26 w27 g28 g29 w30 g31 g32 g33 fa fh fk fr fb)) hC V ⟨(Nat.le_of_ble_eq_true rfl), (Nat.le_of_ble_eq_true rfl)⟩ ⟨(-2), w21, fh, fk, fr, fb, rfl, rfl⟩ dX8_bestRound_32

def q_m_payOf (T : Nat → ClassId) (n : Nat) (o : Nat) (j : Nat) (pl : Int32) (w0 : Int32) (g1 : Nat) (g2 : Nat) (g3 : Nat) (g4 : Nat) (tp : Nat) (w6 : Int32) (w7 : Int32) (w8 : Int32) (w9 : Int32) (w10 : Int32) (w11 : Int32) (w12 : Int32) (w13 : Int32) (w14 : Int32) (g15 : Nat) (w16 : Int32) (g17 : Nat) (w18 : Int32) (w19 : Int32) (g20 : Nat) (w21 : Int32) (g22 : Nat) (g23 : Nat) (g24 : Nat) (w25 : Int32) (w26 : Int32) (w27 : Int32) (g28 : Nat) (g29 : Nat) (w30 : Int32) (g31 : Nat) (g32 : Nat) (g33 : Nat) (fa : Nat → Int32) : Option Value → va_W → Prop := fun rr ww => (∃ (z : Int32), rr = some (.int z) ∧ ww = [(o, .inr (8, [.int w0, .ref g1, .ref g2, .ref g3, .ref g4, .int (nI tp), .int w6, .int w7, .int w8, .int w9, .int w10, .int w11, .int w12, .int w13, .int w14, .ref g15, .int w16, .ref g17, .int w18, .int w19, .ref g20, .int w21, .ref g22, .ref g23, .ref g24, .int w25, .int w26, .int w27, .ref g28, .ref g29, .int w30, .ref g31, .ref g32, .ref g33])), (g1, .inl (T 0, 282, .inl fa))])
set_option maxHeartbeats 4000000 in
set_option maxRecDepth 100000 in
theorem m_payOf (l : Launch) (D : va_G) (T : Nat → ClassId) (n : Nat) (o : Nat) (j : Nat) (pl : Int32) (w0 : Int32) (g1 : Nat) (g2 : Nat) (g3 : Nat) (g4 : Nat) (tp : Nat) (w6 : Int32) (w7 : Int32) (w8 : Int32) (w9 : Int32) (w10 : Int32) (w11 : Int32) (w12 : Int32) (w13 : Int32) (w14 : Int32) (g15 : Nat) (w16 : Int32) (g17 : Nat) (w18 : Int32) (w19 : Int32) (g20 : Nat) (w21 : Int32) (g22 : Nat) (g23 : Nat) (g24 : Nat) (w25 : Int32) (w26 : Int32) (w27 : Int32) (g28 : Nat) (g29 : Nat) (w30 : Int32) (g31 : Nat) (g32 : Nat) (g33 : Nat) (fa : Nat → Int32) (h_a : MI n fa) (h_j : j < n) : Ct l yX8_payOf cX8_payOf 4 (some .int) 2 0 0 D T [.ref o, .int (nI j), .int pl] [(o, .inr (8, [.int w0, .ref g1, .ref g2, .ref g3, .ref g4, .int (nI tp), .int w6, .int w7, .int w8, .int w9, .int w10, .int w11, .int w12, .int w13, .int w14, .ref g15, .int w16, .ref g17, .int w18, .int w19, .ref g20, .int w21, .ref g22, .ref g23, .ref g24, .int w25, .int w26, .int w27, .ref g28, .ref g29, .int w30, .ref g31, .ref g32, .ref g33])), (g1, .inl (T 0, 282, .inl fa))] (q_m_payOf T n o j pl w0 g1 g2 g3 g4 tp w6 w7 w8 w9 w10 w11 w12 w13 w14 g15 w16 g17 w18 w19 g20 w21 g22 g23 g24 w25 w26 w27 g28 g29 w30 g31 g32 g33 fa) := by
  refine Ct.of (cc := cX8_payOf) (maxL := 4) (ret := (some .int)) (by decide) (Nat.le_of_ble_eq_true rfl) ?_
  intro p e s m args below meth c A ls hC hnm V hl
  obtain ⟨hx, hb, hr, hml, hown, hts, hlocks⟩ := id hC
  generalize hH : s.heap = H at V ⊢
  clear hH
  have hl : lv_has ls 4 [(0, .ref o), (1, .int (nI j)), (2, .int pl)] := hl
  generalize hlo : ([] : List Loc) = locs at V ⊢
  clear hlo
  have ms0 := ms_rf h_a
  have hn10 := h_a.1
  refine lv_aload_n hx hb dX8_payOf_0 rfl (lv_at hl 0 rfl) ?_
  refine lv_iload_n hx hb dX8_payOf_1 rfl (lv_at hl 1 rfl) ?_
  refine lv_iload_n hx hb dX8_payOf_2 rfl (lv_at hl 2 rfl) ?_
  refine lv_iconst (v := (nI 0)) hx hb dX8_payOf_3 (by decide +kernel) ?_
  refine g_callV (wr := []) (nA := 3) hC V hl.1 (m_heatThen l D T n o j pl (nI 0) w0 g1 g2 g3 g4 tp w6 w7 w8 w9 w10 w11 w12 w13 w14 g15 w16 g17 w18 w19 g20 w21 g22 g23 g24 w25 w26 w27 g28 g29 w30 g31 g32 g33 fa h_a (by first | assumption | omega)) w_1126 w_1128 w_s51 w_9 w_1129 (by decide +kernel) rfl ⟨(Nat.le_of_ble_eq_true rfl), (Nat.le_of_ble_eq_true rfl)⟩ 0 (ci := 8) rfl rfl [0, 1] [] rfl rfl rfl rfl (by decide) (Nat.le_of_ble_eq_true rfl) dX8_payOf_4 ⟨(Nat.le_of_ble_eq_true rfl), (Nat.le_of_ble_eq_true rfl)⟩ rfl (fun r w1 H locs hQ V => ?_)
  obtain ⟨z_1, rfl, rfl, f_2⟩ := hQ
  have V : gW D T A s [(o, .inr (8, [.int w0, .ref g1, .ref g2, .ref g3, .ref g4, .int (nI tp), .int w6, .int w7, .int w8, .int w9, .int w10, .int w11, .int w12, .int w13, .int w14, .ref g15, .int w16, .ref g17, .int w18, .int w19, .ref g20, .int w21, .ref g22, .ref g23, .ref g24, .int w25, .int w26, .int w27, .ref g28, .ref g29, .int w30, .ref g31, .ref g32, .ref g33])), (g1, .inl (T 0, 282, .inl fa))] H locs := V
  show W p l e _ s m args below meth c H locs _ _ _ (F0 m 7 ls [.int z_1])
  refine lv_istore_n (lv' := [(3, .int z_1), (0, .ref o), (1, .int (nI j)), (2, .int pl)]) hx hb dX8_payOf_7 rfl hl (by decide) rfl (fun ls hl => ?_)
  refine lv_iload_n hx hb dX8_payOf_8 rfl (lv_at hl 0 rfl) ?_
  refine lv_aload_n hx hb dX8_payOf_9 rfl (lv_at hl 1 rfl) ?_
  refine g_get hC V (ci := 8) uwX8 0 rfl rfl 1 (by decide) w_913 rfl rfl dX8_payOf_10 ?_
  refine lv_bipush (v := (nI 34)) hx hb dX8_payOf_13 (by decide +kernel) ?_
  refine lv_iload_n hx hb dX8_payOf_15 rfl (lv_at hl 2 rfl) ?_
  refine lv_iadd hx hb dX8_payOf_16 ?_
  refine g_vi (y := (nI (34 + j))) (nI_add _ _) ?_
  refine g_iald hC V 1 rfl (vp_in_nI (by omega) (by omega)) (v := (fa (34 + j))) (congrArg _ (nI_clamp (by omega))) dX8_payOf_17 ?_
  refine lv_icmp_lt (tgt := 38) hx hb dX8_payOf_18 (by decide) (fun c_3 => ?_) (fun c_3 => ?_)
  · skip
    refine lv_iconst (v := (nI 0)) hx hb dX8_payOf_38 (by decide +kernel) ?_
    refine lv_iload_n hx hb dX8_payOf_39 rfl (lv_at hl 3 rfl) ?_
    refine lv_i2l (v := pl.toInt64) hx hb dX8_payOf_40 rfl ?_
    refine lv_iload_n hx hb dX8_payOf_41 rfl (lv_at hl 2 rfl) ?_
    refine g_callSU (nA := 2) hC V hl.1 (m_isIn l D T pl.toInt64 (nI j)) w_1130 w_1131 w_9 w_1132 (by decide +kernel) rfl ⟨(Nat.le_of_ble_eq_true rfl), (Nat.le_of_ble_eq_true rfl)⟩ [] rfl rfl (Nat.le_of_ble_eq_true rfl) dX8_payOf_42 ⟨(Nat.le_of_ble_eq_true rfl), (Nat.le_of_ble_eq_true rfl)⟩ rfl (fun r w1 H locs hQ V => ?_)
    rcases hQ with ⟨rfl, rfl⟩ | ⟨rfl, rfl⟩
    · have V : gW D T A s [(o, .inr (8, [.int w0, .ref g1, .ref g2, .ref g3, .ref g4, .int (nI tp), .int w6, .int w7, .int w8, .int w9, .int w10, .int w11, .int w12, .int w13, .int w14, .ref g15, .int w16, .ref g17, .int w18, .int w19, .ref g20, .int w21, .ref g22, .ref g23, .ref g24, .int w25, .int w26, .int w27, .ref g28, .ref g29, .int w30, .ref g31, .ref g32, .ref g33])), (g1, .inl (T 0, 282, .inl fa))] H locs := V _ [] rfl rfl rfl (by decide +kernel) rfl
      show W p l e _ s m args below meth c H locs _ _ _ (F0 m 45 ls [.int (nI 1), .int (nI 0)])
      refine lv_if_eq (tgt := 52) hx hb dX8_payOf_45 (by decide) (fun c => absurd (show (nI 1) = 0 from c) (by decide +kernel)) (fun _ => ?_)
      refine lv_iconst (v := (nI 1)) hx hb dX8_payOf_48 (by decide +kernel) ?_
      refine lv_goto (tgt := 53) hx hb dX8_payOf_49 (by decide) ?_
      refine lv_isub hx hb dX8_payOf_53 ?_
      refine g_vi (y := (-1)) (by decide +kernel) ?_
      exact g_iret (Qr := (q_m_payOf T n o j pl w0 g1 g2 g3 g4 tp w6 w7 w8 w9 w10 w11 w12 w13 w14 g15 w16 g17 w18 w19 g20 w21 g22 g23 g24 w25 w26 w27 g28 g29 w30 g31 g32 g33 fa)) hC V ⟨(Nat.le_of_ble_eq_true rfl), (Nat.le_of_ble_eq_true rfl)⟩ ⟨(-1), rfl, rfl⟩ dX8_payOf_54
    · have V : gW D T A s [(o, .inr (8, [.int w0, .ref g1, .ref g2, .ref g3, .ref g4, .int (nI tp), .int w6, .int w7, .int w8, .int w9, .int w10, .int w11, .int w12, .int w13, .int w14, .ref g15, .int w16, .ref g17, .int w18, .int w19, .ref g20, .int w21, .ref g22, .ref g23, .ref g24, .int w25, .int w26, .int w27, .ref g28, .ref g29, .int w30, .ref g31, .ref g32, .ref g33])), (g1, .inl (T 0, 282, .inl fa))] H locs := V _ [] rfl rfl rfl (by decide +kernel) rfl
      show W p l e _ s m args below meth c H locs _ _ _ (F0 m 45 ls [.int (nI 0), .int (nI 0)])
      refine lv_if_eq (tgt := 52) hx hb dX8_payOf_45 (by decide) (fun _ => ?_) (fun c => absurd (show (nI 0) = 0 by decide +kernel) c)
      refine lv_iconst (v := (nI 0)) hx hb dX8_payOf_52 (by decide +kernel) ?_
      refine lv_isub hx hb dX8_payOf_53 ?_
      refine g_vi (y := (nI 0)) (by decide +kernel) ?_
      exact g_iret (Qr := (q_m_payOf T n o j pl w0 g1 g2 g3 g4 tp w6 w7 w8 w9 w10 w11 w12 w13 w14 g15 w16 g17 w18 w19 g20 w21 g22 g23 g24 w25 w26 w27 g28 g29 w30 g31 g32 g33 fa)) hC V ⟨(Nat.le_of_ble_eq_true rfl), (Nat.le_of_ble_eq_true rfl)⟩ ⟨(nI 0), rfl, rfl⟩ dX8_payOf_54
  · skip
    refine lv_iload_n hx hb dX8_payOf_21 rfl (lv_at hl 0 rfl) ?_
    refine lv_aload_n hx hb dX8_payOf_22 rfl (lv_at hl 1 rfl) ?_
    refine g_get hC V (ci := 8) uwX8 0 rfl rfl 1 (by decide) w_913 rfl rfl dX8_payOf_23 ?_
    refine lv_bipush (v := (nI 44)) hx hb dX8_payOf_26 (by decide +kernel) ?_
    refine lv_iload_n hx hb dX8_payOf_28 rfl (lv_at hl 2 rfl) ?_
    refine lv_iadd hx hb dX8_payOf_29 ?_
    refine g_vi (y := (nI (44 + j))) (nI_add _ _) ?_
    refine g_iald hC V 1 rfl (vp_in_nI (by omega) (by omega)) (v := (fa (44 + j))) (congrArg _ (nI_clamp (by omega))) dX8_payOf_30 ?_
    refine lv_icmp_gt (tgt := 38) hx hb dX8_payOf_31 (by decide) (fun c_4 => ?_) (fun c_4 => ?_)
    · skip
      refine lv_iconst (v := (nI 0)) hx hb dX8_payOf_38 (by decide +kernel) ?_
      refine lv_iload_n hx hb dX8_payOf_39 rfl (lv_at hl 3 rfl) ?_
      refine lv_i2l (v := pl.toInt64) hx hb dX8_payOf_40 rfl ?_
      refine lv_iload_n hx hb dX8_payOf_41 rfl (lv_at hl 2 rfl) ?_
      refine g_callSU (nA := 2) hC V hl.1 (m_isIn l D T pl.toInt64 (nI j)) w_1130 w_1131 w_9 w_1132 (by decide +kernel) rfl ⟨(Nat.le_of_ble_eq_true rfl), (Nat.le_of_ble_eq_true rfl)⟩ [] rfl rfl (Nat.le_of_ble_eq_true rfl) dX8_payOf_42 ⟨(Nat.le_of_ble_eq_true rfl), (Nat.le_of_ble_eq_true rfl)⟩ rfl (fun r w1 H locs hQ V => ?_)
      rcases hQ with ⟨rfl, rfl⟩ | ⟨rfl, rfl⟩
      · have V : gW D T A s [(o, .inr (8, [.int w0, .ref g1, .ref g2, .ref g3, .ref g4, .int (nI tp), .int w6, .int w7, .int w8, .int w9, .int w10, .int w11, .int w12, .int w13, .int w14, .ref g15, .int w16, .ref g17, .int w18, .int w19, .ref g20, .int w21, .ref g22, .ref g23, .ref g24, .int w25, .int w26, .int w27, .ref g28, .ref g29, .int w30, .ref g31, .ref g32, .ref g33])), (g1, .inl (T 0, 282, .inl fa))] H locs := V _ [] rfl rfl rfl (by decide +kernel) rfl
        show W p l e _ s m args below meth c H locs _ _ _ (F0 m 45 ls [.int (nI 1), .int (nI 0)])
        refine lv_if_eq (tgt := 52) hx hb dX8_payOf_45 (by decide) (fun c => absurd (show (nI 1) = 0 from c) (by decide +kernel)) (fun _ => ?_)
        refine lv_iconst (v := (nI 1)) hx hb dX8_payOf_48 (by decide +kernel) ?_
        refine lv_goto (tgt := 53) hx hb dX8_payOf_49 (by decide) ?_
        refine lv_isub hx hb dX8_payOf_53 ?_
        refine g_vi (y := (-1)) (by decide +kernel) ?_
        exact g_iret (Qr := (q_m_payOf T n o j pl w0 g1 g2 g3 g4 tp w6 w7 w8 w9 w10 w11 w12 w13 w14 g15 w16 g17 w18 w19 g20 w21 g22 g23 g24 w25 w26 w27 g28 g29 w30 g31 g32 g33 fa)) hC V ⟨(Nat.le_of_ble_eq_true rfl), (Nat.le_of_ble_eq_true rfl)⟩ ⟨(-1), rfl, rfl⟩ dX8_payOf_54
      · have V : gW D T A s [(o, .inr (8, [.int w0, .ref g1, .ref g2, .ref g3, .ref g4, .int (nI tp), .int w6, .int w7, .int w8, .int w9, .int w10, .int w11, .int w12, .int w13, .int w14, .ref g15, .int w16, .ref g17, .int w18, .int w19, .ref g20, .int w21, .ref g22, .ref g23, .ref g24, .int w25, .int w26, .int w27, .ref g28, .ref g29, .int w30, .ref g31, .ref g32, .ref g33])), (g1, .inl (T 0, 282, .inl fa))] H locs := V _ [] rfl rfl rfl (by decide +kernel) rfl
        show W p l e _ s m args below meth c H locs _ _ _ (F0 m 45 ls [.int (nI 0), .int (nI 0)])
        refine lv_if_eq (tgt := 52) hx hb dX8_payOf_45 (by decide) (fun _ => ?_) (fun c => absurd (show (nI 0) = 0 by decide +kernel) c)
        refine lv_iconst (v := (nI 0)) hx hb dX8_payOf_52 (by decide +kernel) ?_
        refine lv_isub hx hb dX8_payOf_53 ?_
        refine g_vi (y := (nI 0)) (by decide +kernel) ?_
        exact g_iret (Qr := (q_m_payOf T n o j pl w0 g1 g2 g3 g4 tp w6 w7 w8 w9 w10 w11 w12 w13 w14 g15 w16 g17 w18 w19 g20 w21 g22 g23 g24 w25 w26 w27 g28 g29 w30 g31 g32 g33 fa)) hC V ⟨(Nat.le_of_ble_eq_true rfl), (Nat.le_of_ble_eq_true rfl)⟩ ⟨(nI 0), rfl, rfl⟩ dX8_payOf_54
    · skip
      refine lv_iconst (v := (nI 2)) hx hb dX8_payOf_34 (by decide +kernel) ?_
      refine lv_goto (tgt := 39) hx hb dX8_payOf_35 (by decide) ?_
      refine lv_iload_n hx hb dX8_payOf_39 rfl (lv_at hl 3 rfl) ?_
      refine lv_i2l (v := pl.toInt64) hx hb dX8_payOf_40 rfl ?_
      refine lv_iload_n hx hb dX8_payOf_41 rfl (lv_at hl 2 rfl) ?_
      refine g_callSU (nA := 2) hC V hl.1 (m_isIn l D T pl.toInt64 (nI j)) w_1130 w_1131 w_9 w_1132 (by decide +kernel) rfl ⟨(Nat.le_of_ble_eq_true rfl), (Nat.le_of_ble_eq_true rfl)⟩ [] rfl rfl (Nat.le_of_ble_eq_true rfl) dX8_payOf_42 ⟨(Nat.le_of_ble_eq_true rfl), (Nat.le_of_ble_eq_true rfl)⟩ rfl (fun r w1 H locs hQ V => ?_)
      rcases hQ with ⟨rfl, rfl⟩ | ⟨rfl, rfl⟩
      · have V : gW D T A s [(o, .inr (8, [.int w0, .ref g1, .ref g2, .ref g3, .ref g4, .int (nI tp), .int w6, .int w7, .int w8, .int w9, .int w10, .int w11, .int w12, .int w13, .int w14, .ref g15, .int w16, .ref g17, .int w18, .int w19, .ref g20, .int w21, .ref g22, .ref g23, .ref g24, .int w25, .int w26, .int w27, .ref g28, .ref g29, .int w30, .ref g31, .ref g32, .ref g33])), (g1, .inl (T 0, 282, .inl fa))] H locs := V _ [] rfl rfl rfl (by decide +kernel) rfl
        show W p l e _ s m args below meth c H locs _ _ _ (F0 m 45 ls [.int (nI 1), .int (nI 2)])
        refine lv_if_eq (tgt := 52) hx hb dX8_payOf_45 (by decide) (fun c => absurd (show (nI 1) = 0 from c) (by decide +kernel)) (fun _ => ?_)
        refine lv_iconst (v := (nI 1)) hx hb dX8_payOf_48 (by decide +kernel) ?_
        refine lv_goto (tgt := 53) hx hb dX8_payOf_49 (by decide) ?_
        refine lv_isub hx hb dX8_payOf_53 ?_
        refine g_vi (y := (nI 1)) (by decide +kernel) ?_
        exact g_iret (Qr := (q_m_payOf T n o j pl w0 g1 g2 g3 g4 tp w6 w7 w8 w9 w10 w11 w12 w13 w14 g15 w16 g17 w18 w19 g20 w21 g22 g23 g24 w25 w26 w27 g28 g29 w30 g31 g32 g33 fa)) hC V ⟨(Nat.le_of_ble_eq_true rfl), (Nat.le_of_ble_eq_true rfl)⟩ ⟨(nI 1), rfl, rfl⟩ dX8_payOf_54
      · have V : gW D T A s [(o, .inr (8, [.int w0, .ref g1, .ref g2, .ref g3, .ref g4, .int (nI tp), .int w6, .int w7, .int w8, .int w9, .int w10, .int w11, .int w12, .int w13, .int w14, .ref g15, .int w16, .ref g17, .int w18, .int w19, .ref g20, .int w21, .ref g22, .ref g23, .ref g24, .int w25, .int w26, .int w27, .ref g28, .ref g29, .int w30, .ref g31, .ref g32, .ref g33])), (g1, .inl (T 0, 282, .inl fa))] H locs := V _ [] rfl rfl rfl (by decide +kernel) rfl
        show W p l e _ s m args below meth c H locs _ _ _ (F0 m 45 ls [.int (nI 0), .int (nI 2)])
        refine lv_if_eq (tgt := 52) hx hb dX8_payOf_45 (by decide) (fun _ => ?_) (fun c => absurd (show (nI 0) = 0 by decide +kernel) c)
        refine lv_iconst (v := (nI 0)) hx hb dX8_payOf_52 (by decide +kernel) ?_
        refine lv_isub hx hb dX8_payOf_53 ?_
        refine g_vi (y := (nI 2)) (by decide +kernel) ?_
        exact g_iret (Qr := (q_m_payOf T n o j pl w0 g1 g2 g3 g4 tp w6 w7 w8 w9 w10 w11 w12 w13 w14 g15 w16 g17 w18 w19 g20 w21 g22 g23 g24 w25 w26 w27 g28 g29 w30 g31 g32 g33 fa)) hC V ⟨(Nat.le_of_ble_eq_true rfl), (Nat.le_of_ble_eq_true rfl)⟩ ⟨(nI 2), rfl, rfl⟩ dX8_payOf_54

def q_m_payOfAll (T : Nat → ClassId) (n : Nat) (o : Nat) (pl : Int32) (w0 : Int32) (g1 : Nat) (g2 : Nat) (g3 : Nat) (g4 : Nat) (tp : Nat) (w6 : Int32) (w7 : Int32) (w8 : Int32) (w9 : Int32) (w10 : Int32) (w11 : Int32) (w12 : Int32) (w13 : Int32) (w14 : Int32) (g15 : Nat) (w16 : Int32) (g17 : Nat) (w18 : Int32) (w19 : Int32) (g20 : Nat) (w21 : Int32) (g22 : Nat) (g23 : Nat) (g24 : Nat) (w25 : Int32) (w26 : Int32) (w27 : Int32) (g28 : Nat) (g29 : Nat) (w30 : Int32) (g31 : Nat) (g32 : Nat) (g33 : Nat) (fa : Nat → Int32) : Option Value → va_W → Prop := fun rr ww => (∃ (z : Int32), rr = some (.int z) ∧ ww = [(o, .inr (8, [.int w0, .ref g1, .ref g2, .ref g3, .ref g4, .int (nI tp), .int w6, .int w7, .int w8, .int w9, .int w10, .int w11, .int w12, .int w13, .int w14, .ref g15, .int w16, .ref g17, .int w18, .int w19, .ref g20, .int w21, .ref g22, .ref g23, .ref g24, .int w25, .int w26, .int w27, .ref g28, .ref g29, .int w30, .ref g31, .ref g32, .ref g33])), (g1, .inl (T 0, 282, .inl fa))])
set_option maxHeartbeats 4000000 in
set_option maxRecDepth 100000 in
theorem m_payOfAll (l : Launch) (D : va_G) (T : Nat → ClassId) (n : Nat) (o : Nat) (pl : Int32) (w0 : Int32) (g1 : Nat) (g2 : Nat) (g3 : Nat) (g4 : Nat) (tp : Nat) (w6 : Int32) (w7 : Int32) (w8 : Int32) (w9 : Int32) (w10 : Int32) (w11 : Int32) (w12 : Int32) (w13 : Int32) (w14 : Int32) (g15 : Nat) (w16 : Int32) (g17 : Nat) (w18 : Int32) (w19 : Int32) (g20 : Nat) (w21 : Int32) (g22 : Nat) (g23 : Nat) (g24 : Nat) (w25 : Int32) (w26 : Int32) (w27 : Int32) (g28 : Nat) (g29 : Nat) (w30 : Int32) (g31 : Nat) (g32 : Nat) (g33 : Nat) (fa : Nat → Int32) (h_a : MI n fa) : Ct l yX8_payOfAll cX8_payOfAll 4 (some .int) 3 0 0 D T [.ref o, .int pl] [(o, .inr (8, [.int w0, .ref g1, .ref g2, .ref g3, .ref g4, .int (nI tp), .int w6, .int w7, .int w8, .int w9, .int w10, .int w11, .int w12, .int w13, .int w14, .ref g15, .int w16, .ref g17, .int w18, .int w19, .ref g20, .int w21, .ref g22, .ref g23, .ref g24, .int w25, .int w26, .int w27, .ref g28, .ref g29, .int w30, .ref g31, .ref g32, .ref g33])), (g1, .inl (T 0, 282, .inl fa))] (q_m_payOfAll T n o pl w0 g1 g2 g3 g4 tp w6 w7 w8 w9 w10 w11 w12 w13 w14 g15 w16 g17 w18 w19 g20 w21 g22 g23 g24 w25 w26 w27 g28 g29 w30 g31 g32 g33 fa) := by
  refine Ct.of (cc := cX8_payOfAll) (maxL := 4) (ret := (some .int)) (by decide) (Nat.le_of_ble_eq_true rfl) ?_
  intro p e s m args below meth c A ls hC hnm V hl
  obtain ⟨hx, hb, hr, hml, hown, hts, hlocks⟩ := id hC
  generalize hH : s.heap = H at V ⊢
  clear hH
  have hl : lv_has ls 4 [(0, .ref o), (1, .int pl)] := hl
  generalize hlo : ([] : List Loc) = locs at V ⊢
  clear hlo
  have ms0 := ms_rf h_a
  have hn10 := h_a.1
  refine lv_iconst (v := (nI 0)) hx hb dX8_payOfAll_0 (by decide +kernel) ?_
  refine lv_istore_n (lv' := [(2, .int (nI 0)), (0, .ref o), (1, .int pl)]) hx hb dX8_payOfAll_1 rfl hl (by decide) rfl (fun ls hl => ?_)
  refine lv_iconst (v := (nI 0)) hx hb dX8_payOfAll_2 (by decide +kernel) ?_
  refine lv_istore_n (lv' := [(3, .int (nI 0)), (2, .int (nI 0)), (0, .ref o), (1, .int pl)]) hx hb dX8_payOfAll_3 rfl hl (by decide) rfl (fun ls hl => ?_)
  have L_1 : ∀ (fu : Nat) (k4 : Nat) (x4_2 : Int32), k4 ≤ n → n - k4 < fu → ∀ (H : Heap) (locs : List Loc) (ls : Array Slot), gW D T A s [(o, .inr (8, [.int w0, .ref g1, .ref g2, .ref g3, .ref g4, .int (nI tp), .int w6, .int w7, .int w8, .int w9, .int w10, .int w11, .int w12, .int w13, .int w14, .ref g15, .int w16, .ref g17, .int w18, .int w19, .ref g20, .int w21, .ref g22, .ref g23, .ref g24, .int w25, .int w26, .int w27, .ref g28, .ref g29, .int w30, .ref g31, .ref g32, .ref g33])), (g1, .inl (T 0, 282, .inl fa))] H locs → lv_has ls 4 [(3, .int (nI k4)), (2, .int x4_2), (0, .ref o), (1, .int pl)] → W p l e (rmD 3 0 0) s m args below meth c H locs 0 0 (MQ below (gQ D A (q_m_payOfAll T n o pl w0 g1 g2 g3 g4 tp w6 w7 w8 w9 w10 w11 w12 w13 w14 g15 w16 g17 w18 w19 g20 w21 g22 g23 g24 w25 w26 w27 g28 g29 w30 g31 g32 g33 fa)) args s 0 0 A) (F0 m 4 ls []) := by
    intro fu_4
    induction fu_4 with
    | zero => intro k4 x4_2 hk4 hmu; exact absurd hmu (Nat.not_lt_zero _)
    | succ fu_4 ih_4 =>
      intro k4 x4_2 hk4 hmu_4 H locs ls V hl
      refine lv_iload_n hx hb dX8_payOfAll_4 rfl (lv_at hl 0 rfl) ?_
      refine lv_aload_n hx hb dX8_payOfAll_5 rfl (lv_at hl 2 rfl) ?_
      refine g_get hC V (ci := 8) uwX8 0 rfl rfl 1 (by decide) w_913 rfl rfl dX8_payOfAll_6 ?_
      refine lv_iconst (v := (nI 0)) hx hb dX8_payOfAll_9 (by decide +kernel) ?_
      refine g_iald hC V 1 rfl (vp_in_nI (by decide) (by decide)) (v := (nI n)) (by rw [nI_clamp (by decide)]; first | rfl | exact h_a.2.1) dX8_payOfAll_10 ?_
      refine lv_icmp_ge (tgt := 29) hx hb dX8_payOfAll_11 (by decide) (fun c_2 => ?_) (fun c_2 => ?_)
      · skip
        have c_2 := b_le (by omega) (by omega) c_2
        refine lv_iload_n hx hb dX8_payOfAll_29 rfl (lv_at hl 1 rfl) ?_
        exact g_iret (Qr := (q_m_payOfAll T n o pl w0 g1 g2 g3 g4 tp w6 w7 w8 w9 w10 w11 w12 w13 w14 g15 w16 g17 w18 w19 g20 w21 g22 g23 g24 w25 w26 w27 g28 g29 w30 g31 g32 g33 fa)) hC V ⟨(Nat.le_of_ble_eq_true rfl), (Nat.le_of_ble_eq_true rfl)⟩ ⟨x4_2, rfl, rfl⟩ dX8_payOfAll_30
      · skip
        have c_2 := b_nle (by omega) (by omega) c_2
        refine lv_iload_n hx hb dX8_payOfAll_14 rfl (lv_at hl 1 rfl) ?_
        refine lv_aload_n hx hb dX8_payOfAll_15 rfl (lv_at hl 2 rfl) ?_
        refine lv_iload_n hx hb dX8_payOfAll_16 rfl (lv_at hl 0 rfl) ?_
        refine lv_iload_n hx hb dX8_payOfAll_17 rfl (lv_at hl 3 rfl) ?_
        refine g_callV (wr := []) (nA := 2) hC V hl.1 (m_payOf l D T n o k4 pl w0 g1 g2 g3 g4 tp w6 w7 w8 w9 w10 w11 w12 w13 w14 g15 w16 g17 w18 w19 g20 w21 g22 g23 g24 w25 w26 w27 g28 g29 w30 g31 g32 g33 fa h_a (by first | assumption | omega)) w_1269 w_1271 w_s68 w_9 w_1272 (by decide +kernel) rfl ⟨(Nat.le_of_ble_eq_true rfl), (Nat.le_of_ble_eq_true rfl)⟩ 0 (ci := 8) rfl rfl [0, 1] [] rfl rfl rfl rfl (by decide) (Nat.le_of_ble_eq_true rfl) dX8_payOfAll_18 ⟨(Nat.le_of_ble_eq_true rfl), (Nat.le_of_ble_eq_true rfl)⟩ rfl (fun r w1 H locs hQ V => ?_)
        obtain ⟨z_3, rfl, rfl⟩ := hQ
        have V : gW D T A s [(o, .inr (8, [.int w0, .ref g1, .ref g2, .ref g3, .ref g4, .int (nI tp), .int w6, .int w7, .int w8, .int w9, .int w10, .int w11, .int w12, .int w13, .int w14, .ref g15, .int w16, .ref g17, .int w18, .int w19, .ref g20, .int w21, .ref g22, .ref g23, .ref g24, .int w25, .int w26, .int w27, .ref g28, .ref g29, .int w30, .ref g31, .ref g32, .ref g33])), (g1, .inl (T 0, 282, .inl fa))] H locs := V
        show W p l e _ s m args below meth c H locs _ _ _ (F0 m 21 ls [.int z_3, .int x4_2])
        refine lv_iadd hx hb dX8_payOfAll_21 ?_
        refine lv_istore_n (lv' := [(2, .int (x4_2 + z_3)), (3, .int (nI k4)), (0, .ref o), (1, .int pl)]) hx hb dX8_payOfAll_22 rfl hl (by decide) rfl (fun ls hl => ?_)
        refine lv_iinc (v := (nI (k4 + 1))) (lv' := [(3, .int (nI (k4 + 1))), (2, .int (x4_2 + z_3)), (0, .ref o), (1, .int pl)]) hx hb dX8_payOfAll_23 hl (k := 1) rfl (nI_1 _) (by decide) rfl (fun ls hl => ?_)
        refine lv_goto (tgt := 4) hx hb dX8_payOfAll_26 (by decide) ?_
        exact ih_4 (k4 + 1) (x4_2 + z_3) (by omega) (by omega) _ _ _ V (lv_sub hl [0, 1, 2, 3] rfl)
  exact L_1 _ 0 (nI 0) (by omega) (Nat.lt_succ_self _) _ _ _ V (lv_sub hl [0, 1, 2, 3] rfl)

def q_m_peace (T : Nat → ClassId) (n : Nat) (o : Nat) (wh : Int32) (w0 : Int32) (g1 : Nat) (g2 : Nat) (g3 : Nat) (g4 : Nat) (tp : Nat) (w6 : Int32) (w7 : Int32) (w8 : Int32) (w9 : Int32) (w10 : Int32) (w11 : Int32) (w12 : Int32) (w13 : Int32) (w14 : Int32) (g15 : Nat) (w16 : Int32) (g17 : Nat) (w18 : Int32) (w19 : Int32) (g20 : Nat) (w21 : Int32) (g22 : Nat) (g23 : Nat) (g24 : Nat) (w25 : Int32) (w26 : Int32) (w27 : Int32) (g28 : Nat) (g29 : Nat) (w30 : Int32) (g31 : Nat) (g32 : Nat) (g33 : Nat) (fa : Nat → Int32) : Option Value → va_W → Prop := fun rr ww => (∃ (z : Int32), rr = some (.int z) ∧ ww = [(o, .inr (8, [.int (nI 0), .ref g1, .ref g2, .ref g3, .ref g4, .int (nI tp), .int w6, .int w7, .int w8, .int w9, .int w10, .int w11, .int w12, .int w13, .int w14, .ref g15, .int w16, .ref g17, .int w18, .int w19, .ref g20, .int w21, .ref g22, .ref g23, .ref g24, .int w25, .int w26, .int w27, .ref g28, .ref g29, .int w30, .ref g31, .ref g32, .ref g33])), (g1, .inl (T 0, 282, .inl fa))])
set_option maxHeartbeats 4000000 in
set_option maxRecDepth 100000 in
theorem m_peace (l : Launch) (D : va_G) (T : Nat → ClassId) (n : Nat) (o : Nat) (wh : Int32) (w0 : Int32) (g1 : Nat) (g2 : Nat) (g3 : Nat) (g4 : Nat) (tp : Nat) (w6 : Int32) (w7 : Int32) (w8 : Int32) (w9 : Int32) (w10 : Int32) (w11 : Int32) (w12 : Int32) (w13 : Int32) (w14 : Int32) (g15 : Nat) (w16 : Int32) (g17 : Nat) (w18 : Int32) (w19 : Int32) (g20 : Nat) (w21 : Int32) (g22 : Nat) (g23 : Nat) (g24 : Nat) (w25 : Int32) (w26 : Int32) (w27 : Int32) (g28 : Nat) (g29 : Nat) (w30 : Int32) (g31 : Nat) (g32 : Nat) (g33 : Nat) (fa : Nat → Int32) (h_a : MI n fa) : Ct l yX8_peace cX8_peace 4 (some .int) 4 0 0 D T [.ref o, .int wh] [(o, .inr (8, [.int w0, .ref g1, .ref g2, .ref g3, .ref g4, .int (nI tp), .int w6, .int w7, .int w8, .int w9, .int w10, .int w11, .int w12, .int w13, .int w14, .ref g15, .int w16, .ref g17, .int w18, .int w19, .ref g20, .int w21, .ref g22, .ref g23, .ref g24, .int w25, .int w26, .int w27, .ref g28, .ref g29, .int w30, .ref g31, .ref g32, .ref g33])), (g1, .inl (T 0, 282, .inl fa))] (q_m_peace T n o wh w0 g1 g2 g3 g4 tp w6 w7 w8 w9 w10 w11 w12 w13 w14 g15 w16 g17 w18 w19 g20 w21 g22 g23 g24 w25 w26 w27 g28 g29 w30 g31 g32 g33 fa) := by
  refine Ct.of (cc := cX8_peace) (maxL := 4) (ret := (some .int)) (by decide) (Nat.le_of_ble_eq_true rfl) ?_
  intro p e s m args below meth c A ls hC hnm V hl
  obtain ⟨hx, hb, hr, hml, hown, hts, hlocks⟩ := id hC
  generalize hH : s.heap = H at V ⊢
  clear hH
  have hl : lv_has ls 4 [(0, .ref o), (1, .int wh)] := hl
  generalize hlo : ([] : List Loc) = locs at V ⊢
  clear hlo
  have ms0 := ms_rf h_a
  have hn10 := h_a.1
  have hpw := pw10 hn10
  refine lv_aload_n hx hb dX8_peace_0 rfl (lv_at hl 0 rfl) ?_
  refine lv_iconst (v := (nI 0)) hx hb dX8_peace_1 (by decide +kernel) ?_
  refine g_put hC V (ci := 8) uwX8 tyX8 tyX8_ok nmX8 0 rfl rfl 0 (by decide) w_912 rfl rfl rfl rfl (Nat.le_of_ble_eq_true rfl) (ws' := [(o, .inr (8, [.int (nI 0), .ref g1, .ref g2, .ref g3, .ref g4, .int (nI tp), .int w6, .int w7, .int w8, .int w9, .int w10, .int w11, .int w12, .int w13, .int w14, .ref g15, .int w16, .ref g17, .int w18, .int w19, .ref g20, .int w21, .ref g22, .ref g23, .ref g24, .int w25, .int w26, .int w27, .ref g28, .ref g29, .int w30, .ref g31, .ref g32, .ref g33])), (g1, .inl (T 0, 282, .inl fa))]) rfl dX8_peace_2 (fun H locs V => ?_)
  refine lv_iload_n hx hb dX8_peace_5 rfl (lv_at hl 1 rfl) ?_
  refine lv_i2l (v := wh.toInt64) hx hb dX8_peace_6 rfl ?_
  refine lv_lconst (v := (nI 0).toInt64) hx hb dX8_peace_7 (by decide +kernel) ?_
  refine lv_lconst (v := (nI 1).toInt64) hx hb dX8_peace_8 (by decide +kernel) ?_
  refine g_callSU (nA := 3) hC V hl.1 (m_within l D T wh (nI 0) (nI 1)) w_1023 w_1024 w_9 w_1025 (by decide +kernel) rfl ⟨(Nat.le_of_ble_eq_true rfl), (Nat.le_of_ble_eq_true rfl)⟩ [] rfl rfl (Nat.le_of_ble_eq_true rfl) dX8_peace_9 ⟨(Nat.le_of_ble_eq_true rfl), (Nat.le_of_ble_eq_true rfl)⟩ rfl (fun r w1 H locs hQ V => ?_)
  rcases hQ with ⟨rfl, rfl, f_1, f_2⟩ | ⟨rfl, rfl, f_3⟩
  · have V : gW D T A s [(o, .inr (8, [.int (nI 0), .ref g1, .ref g2, .ref g3, .ref g4, .int (nI tp), .int w6, .int w7, .int w8, .int w9, .int w10, .int w11, .int w12, .int w13, .int w14, .ref g15, .int w16, .ref g17, .int w18, .int w19, .ref g20, .int w21, .ref g22, .ref g23, .ref g24, .int w25, .int w26, .int w27, .ref g28, .ref g29, .int w30, .ref g31, .ref g32, .ref g33])), (g1, .inl (T 0, 282, .inl fa))] H locs := V _ [] rfl rfl rfl (by decide +kernel) rfl
    show W p l e _ s m args below meth c H locs _ _ _ (F0 m 12 ls [.int (nI 1)])
    refine lv_if_ne (tgt := 18) hx hb dX8_peace_12 (by decide) (fun _ => ?_) (fun c => absurd (show (nI 1) = 0 from c) (by decide +kernel))
    refine lv_iconst (v := (nI 0)) hx hb dX8_peace_18 (by decide +kernel) ?_
    refine lv_istore_n (lv' := [(2, .int (nI 0)), (0, .ref o), (1, .int wh)]) hx hb dX8_peace_19 rfl hl (by decide) rfl (fun ls hl => ?_)
    refine lv_iconst (v := (nI 1)) hx hb dX8_peace_20 (by decide +kernel) ?_
    refine lv_istore_n (lv' := [(3, .int (nI 1)), (2, .int (nI 0)), (0, .ref o), (1, .int wh)]) hx hb dX8_peace_21 rfl hl (by decide) rfl (fun ls hl => ?_)
    have L_4 : ∀ (fu : Nat) (k22 : Nat) (x22_2 : Int32), k22 ≤ 2 ^ n → 2 ^ n - k22 < fu → ∀ (H : Heap) (locs : List Loc) (ls : Array Slot), gW D T A s [(o, .inr (8, [.int (nI 0), .ref g1, .ref g2, .ref g3, .ref g4, .int (nI tp), .int w6, .int w7, .int w8, .int w9, .int w10, .int w11, .int w12, .int w13, .int w14, .ref g15, .int w16, .ref g17, .int w18, .int w19, .ref g20, .int w21, .ref g22, .ref g23, .ref g24, .int w25, .int w26, .int w27, .ref g28, .ref g29, .int w30, .ref g31, .ref g32, .ref g33])), (g1, .inl (T 0, 282, .inl fa))] H locs → lv_has ls 4 [(3, .int (nI k22)), (2, .int x22_2), (0, .ref o), (1, .int wh)] → W p l e (rmD 4 0 0) s m args below meth c H locs 0 0 (MQ below (gQ D A (q_m_peace T n o wh w0 g1 g2 g3 g4 tp w6 w7 w8 w9 w10 w11 w12 w13 w14 g15 w16 g17 w18 w19 g20 w21 g22 g23 g24 w25 w26 w27 g28 g29 w30 g31 g32 g33 fa)) args s 0 0 A) (F0 m 22 ls []) := by
      intro fu_22
      induction fu_22 with
      | zero => intro k22 x22_2 hk22 hmu; exact absurd hmu (Nat.not_lt_zero _)
      | succ fu_22 ih_22 =>
        intro k22 x22_2 hk22 hmu_22 H locs ls V hl
        refine lv_iload_n hx hb dX8_peace_22 rfl (lv_at hl 0 rfl) ?_
        refine lv_iconst (v := (nI 1)) hx hb dX8_peace_23 (by decide +kernel) ?_
        refine lv_aload_n hx hb dX8_peace_24 rfl (lv_at hl 2 rfl) ?_
        refine g_get hC V (ci := 8) uwX8 0 rfl rfl 1 (by decide) w_913 rfl rfl dX8_peace_25 ?_
        refine lv_iconst (v := (nI 0)) hx hb dX8_peace_28 (by decide +kernel) ?_
        refine g_iald hC V 1 rfl (vp_in_nI (by decide) (by decide)) (v := (nI n)) (by rw [nI_clamp (by decide)]; first | rfl | exact h_a.2.1) dX8_peace_29 ?_
        refine lv_ishl hx hb dX8_peace_30 ?_
        refine g_vi (y := (nI (2 ^ n))) (shl_pow (by omega)) ?_
        refine lv_icmp_ge (tgt := 55) hx hb dX8_peace_31 (by decide) (fun c_5 => ?_) (fun c_5 => ?_)
        · skip
          have c_5 := b_le (by omega) (by omega) c_5
          refine lv_iload_n hx hb dX8_peace_55 rfl (lv_at hl 3 rfl) ?_
          refine lv_if_ne (tgt := 67) hx hb dX8_peace_56 (by decide) (fun c_6 => ?_) (fun c_6 => ?_)
          · skip
            refine lv_iload_n hx hb dX8_peace_67 rfl (lv_at hl 1 rfl) ?_
            exact g_iret (Qr := (q_m_peace T n o wh w0 g1 g2 g3 g4 tp w6 w7 w8 w9 w10 w11 w12 w13 w14 g15 w16 g17 w18 w19 g20 w21 g22 g23 g24 w25 w26 w27 g28 g29 w30 g31 g32 g33 fa)) hC V ⟨(Nat.le_of_ble_eq_true rfl), (Nat.le_of_ble_eq_true rfl)⟩ ⟨x22_2, rfl, rfl⟩ dX8_peace_68
          · skip
            refine lv_aload_n hx hb dX8_peace_59 rfl (lv_at hl 2 rfl) ?_
            refine lv_iload_n hx hb dX8_peace_60 rfl (lv_at hl 1 rfl) ?_
            refine g_callV (wr := []) (nA := 1) hC V hl.1 (m_payOfAll l D T n o x22_2 (nI 0) g1 g2 g3 g4 tp w6 w7 w8 w9 w10 w11 w12 w13 w14 g15 w16 g17 w18 w19 g20 w21 g22 g23 g24 w25 w26 w27 g28 g29 w30 g31 g32 g33 fa h_a) w_1265 w_1267 w_s67 w_9 w_1268 (by decide +kernel) rfl ⟨(Nat.le_of_ble_eq_true rfl), (Nat.le_of_ble_eq_true rfl)⟩ 0 (ci := 8) rfl rfl [0, 1] [] rfl rfl rfl rfl (by decide) (Nat.le_of_ble_eq_true rfl) dX8_peace_61 ⟨(Nat.le_of_ble_eq_true rfl), (Nat.le_of_ble_eq_true rfl)⟩ rfl (fun r w1 H locs hQ V => ?_)
            obtain ⟨z_7, rfl, rfl⟩ := hQ
            have V : gW D T A s [(o, .inr (8, [.int (nI 0), .ref g1, .ref g2, .ref g3, .ref g4, .int (nI tp), .int w6, .int w7, .int w8, .int w9, .int w10, .int w11, .int w12, .int w13, .int w14, .ref g15, .int w16, .ref g17, .int w18, .int w19, .ref g20, .int w21, .ref g22, .ref g23, .ref g24, .int w25, .int w26, .int w27, .ref g28, .ref g29, .int w30, .ref g31, .ref g32, .ref g33])), (g1, .inl (T 0, 282, .inl fa))] H locs := V
            show W p l e _ s m args below meth c H locs _ _ _ (F0 m 64 ls [.int z_7])
            refine lv_goto (tgt := 68) hx hb dX8_peace_64 (by decide) ?_
            exact g_iret (Qr := (q_m_peace T n o wh w0 g1 g2 g3 g4 tp w6 w7 w8 w9 w10 w11 w12 w13 w14 g15 w16 g17 w18 w19 g20 w21 g22 g23 g24 w25 w26 w27 g28 g29 w30 g31 g32 g33 fa)) hC V ⟨(Nat.le_of_ble_eq_true rfl), (Nat.le_of_ble_eq_true rfl)⟩ ⟨z_7, rfl, rfl⟩ dX8_peace_68
        · skip
          have c_5 := b_nle (by omega) (by omega) c_5
          refine lv_aload_n hx hb dX8_peace_34 rfl (lv_at hl 2 rfl) ?_
          refine lv_iload_n hx hb dX8_peace_35 rfl (lv_at hl 0 rfl) ?_
          refine g_callV (wr := []) (nA := 1) hC V hl.1 (m_payOfAll l D T n o (nI k22) (nI 0) g1 g2 g3 g4 tp w6 w7 w8 w9 w10 w11 w12 w13 w14 g15 w16 g17 w18 w19 g20 w21 g22 g23 g24 w25 w26 w27 g28 g29 w30 g31 g32 g33 fa h_a) w_1265 w_1267 w_s67 w_9 w_1268 (by decide +kernel) rfl ⟨(Nat.le_of_ble_eq_true rfl), (Nat.le_of_ble_eq_true rfl)⟩ 0 (ci := 8) rfl rfl [0, 1] [] rfl rfl rfl rfl (by decide) (Nat.le_of_ble_eq_true rfl) dX8_peace_36 ⟨(Nat.le_of_ble_eq_true rfl), (Nat.le_of_ble_eq_true rfl)⟩ rfl (fun r w1 H locs hQ V => ?_)
          obtain ⟨z_8, rfl, rfl⟩ := hQ
          have V : gW D T A s [(o, .inr (8, [.int (nI 0), .ref g1, .ref g2, .ref g3, .ref g4, .int (nI tp), .int w6, .int w7, .int w8, .int w9, .int w10, .int w11, .int w12, .int w13, .int w14, .ref g15, .int w16, .ref g17, .int w18, .int w19, .ref g20, .int w21, .ref g22, .ref g23, .ref g24, .int w25, .int w26, .int w27, .ref g28, .ref g29, .int w30, .ref g31, .ref g32, .ref g33])), (g1, .inl (T 0, 282, .inl fa))] H locs := V
          show W p l e _ s m args below meth c H locs _ _ _ (F0 m 39 ls [.int z_8])
          refine lv_aload_n hx hb dX8_peace_39 rfl (lv_at hl 2 rfl) ?_
          refine lv_iload_n hx hb dX8_peace_40 rfl (lv_at hl 1 rfl) ?_
          refine g_callV (wr := []) (nA := 1) hC V hl.1 (m_payOfAll l D T n o x22_2 (nI 0) g1 g2 g3 g4 tp w6 w7 w8 w9 w10 w11 w12 w13 w14 g15 w16 g17 w18 w19 g20 w21 g22 g23 g24 w25 w26 w27 g28 g29 w30 g31 g32 g33 fa h_a) w_1265 w_1267 w_s67 w_9 w_1268 (by decide +kernel) rfl ⟨(Nat.le_of_ble_eq_true rfl), (Nat.le_of_ble_eq_true rfl)⟩ 0 (ci := 8) rfl rfl [0, 1] [] rfl rfl rfl rfl (by decide) (Nat.le_of_ble_eq_true rfl) dX8_peace_41 ⟨(Nat.le_of_ble_eq_true rfl), (Nat.le_of_ble_eq_true rfl)⟩ rfl (fun r w1 H locs hQ V => ?_)
          obtain ⟨z_9, rfl, rfl⟩ := hQ
          have V : gW D T A s [(o, .inr (8, [.int (nI 0), .ref g1, .ref g2, .ref g3, .ref g4, .int (nI tp), .int w6, .int w7, .int w8, .int w9, .int w10, .int w11, .int w12, .int w13, .int w14, .ref g15, .int w16, .ref g17, .int w18, .int w19, .ref g20, .int w21, .ref g22, .ref g23, .ref g24, .int w25, .int w26, .int w27, .ref g28, .ref g29, .int w30, .ref g31, .ref g32, .ref g33])), (g1, .inl (T 0, 282, .inl fa))] H locs := V
          show W p l e _ s m args below meth c H locs _ _ _ (F0 m 44 ls [.int z_9, .int z_8])
          refine lv_icmp_le (tgt := 49) hx hb dX8_peace_44 (by decide) (fun c_10 => ?_) (fun c_10 => ?_)
          · skip
            refine lv_iinc (v := (nI (k22 + 1))) (lv' := [(3, .int (nI (k22 + 1))), (2, .int x22_2), (0, .ref o), (1, .int wh)]) hx hb dX8_peace_49 hl (k := 0) rfl (nI_1 _) (by decide) rfl (fun ls hl => ?_)
            refine lv_goto (tgt := 22) hx hb dX8_peace_52 (by decide) ?_
            exact ih_22 (k22 + 1) x22_2 (by omega) (by omega) _ _ _ V (lv_sub hl [0, 1, 2, 3] rfl)
          · skip
            refine lv_iload_n hx hb dX8_peace_47 rfl (lv_at hl 0 rfl) ?_
            refine lv_istore_n (lv' := [(2, .int (nI k22)), (3, .int (nI k22)), (0, .ref o), (1, .int wh)]) hx hb dX8_peace_48 rfl hl (by decide) rfl (fun ls hl => ?_)
            refine lv_iinc (v := (nI (k22 + 1))) (lv' := [(3, .int (nI (k22 + 1))), (2, .int (nI k22)), (0, .ref o), (1, .int wh)]) hx hb dX8_peace_49 hl (k := 1) rfl (nI_1 _) (by decide) rfl (fun ls hl => ?_)
            refine lv_goto (tgt := 22) hx hb dX8_peace_52 (by decide) ?_
            exact ih_22 (k22 + 1) (nI k22) (by omega) (by omega) _ _ _ V (lv_sub hl [0, 1, 2, 3] rfl)
    exact L_4 _ 1 (nI 0) (by omega) (Nat.lt_succ_self _) _ _ _ V (lv_sub hl [0, 1, 2, 3] rfl)
  · have V : gW D T A s [(o, .inr (8, [.int (nI 0), .ref g1, .ref g2, .ref g3, .ref g4, .int (nI tp), .int w6, .int w7, .int w8, .int w9, .int w10, .int w11, .int w12, .int w13, .int w14, .ref g15, .int w16, .ref g17, .int w18, .int w19, .ref g20, .int w21, .ref g22, .ref g23, .ref g24, .int w25, .int w26, .int w27, .ref g28, .ref g29, .int w30, .ref g31, .ref g32, .ref g33])), (g1, .inl (T 0, 282, .inl fa))] H locs := V _ [] rfl rfl rfl (by decide +kernel) rfl
    show W p l e _ s m args below meth c H locs _ _ _ (F0 m 12 ls [.int (nI 0)])
    refine lv_if_ne (tgt := 18) hx hb dX8_peace_12 (by decide) (fun c => absurd (show (nI 0) = 0 by decide +kernel) c) (fun _ => ?_)
    refine lv_bipush (v := (-2)) hx hb dX8_peace_15 (by decide +kernel) ?_
    exact g_iret (Qr := (q_m_peace T n o wh w0 g1 g2 g3 g4 tp w6 w7 w8 w9 w10 w11 w12 w13 w14 g15 w16 g17 w18 w19 g20 w21 g22 g23 g24 w25 w26 w27 g28 g29 w30 g31 g32 g33 fa)) hC V ⟨(Nat.le_of_ble_eq_true rfl), (Nat.le_of_ble_eq_true rfl)⟩ ⟨(-2), rfl, rfl⟩ dX8_peace_17

def q_m_selfish (T : Nat → ClassId) (n : Nat) (o : Nat) (k : Int32) (w0 : Int32) (g1 : Nat) (g2 : Nat) (g3 : Nat) (g4 : Nat) (tp : Nat) (w6 : Int32) (w7 : Int32) (w8 : Int32) (w9 : Int32) (w10 : Int32) (w11 : Int32) (w12 : Int32) (w13 : Int32) (w14 : Int32) (g15 : Nat) (w16 : Int32) (g17 : Nat) (w18 : Int32) (w19 : Int32) (g20 : Nat) (w21 : Int32) (g22 : Nat) (g23 : Nat) (g24 : Nat) (w25 : Int32) (w26 : Int32) (w27 : Int32) (g28 : Nat) (g29 : Nat) (w30 : Int32) (g31 : Nat) (g32 : Nat) (g33 : Nat) (fa : Nat → Int32) : Option Value → va_W → Prop := fun rr ww => (∃ (z : Int32), rr = some (.int z) ∧ ww = [(o, .inr (8, [.int (nI 0), .ref g1, .ref g2, .ref g3, .ref g4, .int (nI tp), .int w6, .int w7, .int w8, .int w9, .int w10, .int w11, .int w12, .int w13, .int w14, .ref g15, .int w16, .ref g17, .int w18, .int w19, .ref g20, .int w21, .ref g22, .ref g23, .ref g24, .int w25, .int w26, .int w27, .ref g28, .ref g29, .int w30, .ref g31, .ref g32, .ref g33])), (g1, .inl (T 0, 282, .inl fa))])
set_option maxHeartbeats 4000000 in
set_option maxRecDepth 100000 in
theorem m_selfish (l : Launch) (D : va_G) (T : Nat → ClassId) (n : Nat) (o : Nat) (k : Int32) (w0 : Int32) (g1 : Nat) (g2 : Nat) (g3 : Nat) (g4 : Nat) (tp : Nat) (w6 : Int32) (w7 : Int32) (w8 : Int32) (w9 : Int32) (w10 : Int32) (w11 : Int32) (w12 : Int32) (w13 : Int32) (w14 : Int32) (g15 : Nat) (w16 : Int32) (g17 : Nat) (w18 : Int32) (w19 : Int32) (g20 : Nat) (w21 : Int32) (g22 : Nat) (g23 : Nat) (g24 : Nat) (w25 : Int32) (w26 : Int32) (w27 : Int32) (g28 : Nat) (g29 : Nat) (w30 : Int32) (g31 : Nat) (g32 : Nat) (g33 : Nat) (fa : Nat → Int32) (h_a : MI n fa) : Ct l yX8_selfish cX8_selfish 6 (some .int) 3 0 0 D T [.ref o, .int k] [(o, .inr (8, [.int w0, .ref g1, .ref g2, .ref g3, .ref g4, .int (nI tp), .int w6, .int w7, .int w8, .int w9, .int w10, .int w11, .int w12, .int w13, .int w14, .ref g15, .int w16, .ref g17, .int w18, .int w19, .ref g20, .int w21, .ref g22, .ref g23, .ref g24, .int w25, .int w26, .int w27, .ref g28, .ref g29, .int w30, .ref g31, .ref g32, .ref g33])), (g1, .inl (T 0, 282, .inl fa))] (q_m_selfish T n o k w0 g1 g2 g3 g4 tp w6 w7 w8 w9 w10 w11 w12 w13 w14 g15 w16 g17 w18 w19 g20 w21 g22 g23 g24 w25 w26 w27 g28 g29 w30 g31 g32 g33 fa) := by
  refine Ct.of (cc := cX8_selfish) (maxL := 6) (ret := (some .int)) (by decide) (Nat.le_of_ble_eq_true rfl) ?_
  intro p e s m args below meth c A ls hC hnm V hl
  obtain ⟨hx, hb, hr, hml, hown, hts, hlocks⟩ := id hC
  generalize hH : s.heap = H at V ⊢
  clear hH
  have hl : lv_has ls 6 [(0, .ref o), (1, .int k)] := hl
  generalize hlo : ([] : List Loc) = locs at V ⊢
  clear hlo
  have ms0 := ms_rf h_a
  have hn10 := h_a.1
  have hpw := pw10 hn10
  refine lv_aload_n hx hb dX8_selfish_0 rfl (lv_at hl 0 rfl) ?_
  refine lv_iconst (v := (nI 0)) hx hb dX8_selfish_1 (by decide +kernel) ?_
  refine g_put hC V (ci := 8) uwX8 tyX8 tyX8_ok nmX8 0 rfl rfl 0 (by decide) w_912 rfl rfl rfl rfl (Nat.le_of_ble_eq_true rfl) (ws' := [(o, .inr (8, [.int (nI 0), .ref g1, .ref g2, .ref g3, .ref g4, .int (nI tp), .int w6, .int w7, .int w8, .int w9, .int w10, .int w11, .int w12, .int w13, .int w14, .ref g15, .int w16, .ref g17, .int w18, .int w19, .ref g20, .int w21, .ref g22, .ref g23, .ref g24, .int w25, .int w26, .int w27, .ref g28, .ref g29, .int w30, .ref g31, .ref g32, .ref g33])), (g1, .inl (T 0, 282, .inl fa))]) rfl dX8_selfish_2 (fun H locs V => ?_)
  refine lv_iconst (v := (nI 0)) hx hb dX8_selfish_5 (by decide +kernel) ?_
  refine lv_istore_n (lv' := [(2, .int (nI 0)), (0, .ref o), (1, .int k)]) hx hb dX8_selfish_6 rfl hl (by decide) rfl (fun ls hl => ?_)
  refine lv_iconst (v := (nI 0)) hx hb dX8_selfish_7 (by decide +kernel) ?_
  refine lv_istore_n (lv' := [(3, .int (nI 0)), (2, .int (nI 0)), (0, .ref o), (1, .int k)]) hx hb dX8_selfish_8 rfl hl (by decide) rfl (fun ls hl => ?_)
  have L_1 : ∀ (fu : Nat) (k9 : Nat) (x9_2 : Int32), k9 ≤ 2 ^ n → 2 ^ n - k9 < fu → ∀ (H : Heap) (locs : List Loc) (ls : Array Slot), gW D T A s [(o, .inr (8, [.int (nI 0), .ref g1, .ref g2, .ref g3, .ref g4, .int (nI tp), .int w6, .int w7, .int w8, .int w9, .int w10, .int w11, .int w12, .int w13, .int w14, .ref g15, .int w16, .ref g17, .int w18, .int w19, .ref g20, .int w21, .ref g22, .ref g23, .ref g24, .int w25, .int w26, .int w27, .ref g28, .ref g29, .int w30, .ref g31, .ref g32, .ref g33])), (g1, .inl (T 0, 282, .inl fa))] H locs → lv_has ls 6 [(3, .int (nI k9)), (2, .int x9_2), (0, .ref o), (1, .int k)] → W p l e (rmD 3 0 0) s m args below meth c H locs 0 0 (MQ below (gQ D A (q_m_selfish T n o k w0 g1 g2 g3 g4 tp w6 w7 w8 w9 w10 w11 w12 w13 w14 g15 w16 g17 w18 w19 g20 w21 g22 g23 g24 w25 w26 w27 g28 g29 w30 g31 g32 g33 fa)) args s 0 0 A) (F0 m 9 ls []) := by
    intro fu_9
    induction fu_9 with
    | zero => intro k9 x9_2 hk9 hmu; exact absurd hmu (Nat.not_lt_zero _)
    | succ fu_9 ih_9 =>
      intro k9 x9_2 hk9 hmu_9 H locs ls V hl
      refine lv_iload_n hx hb dX8_selfish_9 rfl (lv_at hl 0 rfl) ?_
      refine lv_iconst (v := (nI 1)) hx hb dX8_selfish_10 (by decide +kernel) ?_
      refine lv_aload_n hx hb dX8_selfish_11 rfl (lv_at hl 2 rfl) ?_
      refine g_get hC V (ci := 8) uwX8 0 rfl rfl 1 (by decide) w_913 rfl rfl dX8_selfish_12 ?_
      refine lv_iconst (v := (nI 0)) hx hb dX8_selfish_15 (by decide +kernel) ?_
      refine g_iald hC V 1 rfl (vp_in_nI (by decide) (by decide)) (v := (nI n)) (by rw [nI_clamp (by decide)]; first | rfl | exact h_a.2.1) dX8_selfish_16 ?_
      refine lv_ishl hx hb dX8_selfish_17 ?_
      refine g_vi (y := (nI (2 ^ n))) (shl_pow (by omega)) ?_
      refine lv_icmp_ge (tgt := 102) hx hb dX8_selfish_18 (by decide) (fun c_2 => ?_) (fun c_2 => ?_)
      · skip
        have c_2 := b_le (by omega) (by omega) c_2
        refine lv_iload_n hx hb dX8_selfish_102 rfl (lv_at hl 3 rfl) ?_
        refine lv_iconst (v := (-1)) hx hb dX8_selfish_103 (by decide +kernel) ?_
        refine lv_icmp_ne (tgt := 111) hx hb dX8_selfish_104 (by decide) (fun c_3 => ?_) (fun c_3 => ?_)
        · skip
          refine lv_iconst (v := (-1)) hx hb dX8_selfish_111 (by decide +kernel) ?_
          exact g_iret (Qr := (q_m_selfish T n o k w0 g1 g2 g3 g4 tp w6 w7 w8 w9 w10 w11 w12 w13 w14 g15 w16 g17 w18 w19 g20 w21 g22 g23 g24 w25 w26 w27 g28 g29 w30 g31 g32 g33 fa)) hC V ⟨(Nat.le_of_ble_eq_true rfl), (Nat.le_of_ble_eq_true rfl)⟩ ⟨(-1), rfl, rfl⟩ dX8_selfish_112
        · skip
          refine lv_iload_n hx hb dX8_selfish_107 rfl (lv_at hl 1 rfl) ?_
          refine lv_goto (tgt := 112) hx hb dX8_selfish_108 (by decide) ?_
          exact g_iret (Qr := (q_m_selfish T n o k w0 g1 g2 g3 g4 tp w6 w7 w8 w9 w10 w11 w12 w13 w14 g15 w16 g17 w18 w19 g20 w21 g22 g23 g24 w25 w26 w27 g28 g29 w30 g31 g32 g33 fa)) hC V ⟨(Nat.le_of_ble_eq_true rfl), (Nat.le_of_ble_eq_true rfl)⟩ ⟨x9_2, rfl, rfl⟩ dX8_selfish_112
      · skip
        have c_2 := b_nle (by omega) (by omega) c_2
        refine lv_iconst (v := (nI 1)) hx hb dX8_selfish_21 (by decide +kernel) ?_
        refine lv_istore (lv' := [(4, .int (nI 1)), (3, .int (nI k9)), (2, .int x9_2), (0, .ref o), (1, .int k)]) hx hb dX8_selfish_22 hl (by decide) rfl (fun ls hl => ?_)
        refine lv_iconst (v := (nI 0)) hx hb dX8_selfish_24 (by decide +kernel) ?_
        refine lv_istore (lv' := [(5, .int (nI 0)), (4, .int (nI 1)), (3, .int (nI k9)), (2, .int x9_2), (0, .ref o), (1, .int k)]) hx hb dX8_selfish_25 hl (by decide) rfl (fun ls hl => ?_)
        have L_4 : ∀ (fu : Nat) (k27 : Nat) (x27_4 : Int32), k27 ≤ n → n - k27 < fu → ∀ (H : Heap) (locs : List Loc) (ls : Array Slot), gW D T A s [(o, .inr (8, [.int (nI 0), .ref g1, .ref g2, .ref g3, .ref g4, .int (nI tp), .int w6, .int w7, .int w8, .int w9, .int w10, .int w11, .int w12, .int w13, .int w14, .ref g15, .int w16, .ref g17, .int w18, .int w19, .ref g20, .int w21, .ref g22, .ref g23, .ref g24, .int w25, .int w26, .int w27, .ref g28, .ref g29, .int w30, .ref g31, .ref g32, .ref g33])), (g1, .inl (T 0, 282, .inl fa))] H locs → lv_has ls 6 [(5, .int (nI k27)), (4, .int x27_4), (3, .int (nI k9)), (2, .int x9_2), (0, .ref o), (1, .int k)] → W p l e (rmD 3 0 0) s m args below meth c H locs 0 0 (MQ below (gQ D A (q_m_selfish T n o k w0 g1 g2 g3 g4 tp w6 w7 w8 w9 w10 w11 w12 w13 w14 g15 w16 g17 w18 w19 g20 w21 g22 g23 g24 w25 w26 w27 g28 g29 w30 g31 g32 g33 fa)) args s 0 0 A) (F0 m 27 ls []) := by
          intro fu_27
          induction fu_27 with
          | zero => intro k27 x27_4 hk27 hmu; exact absurd hmu (Nat.not_lt_zero _)
          | succ fu_27 ih_27 =>
            intro k27 x27_4 hk27 hmu_27 H locs ls V hl
            refine lv_iload hx hb dX8_selfish_27 (lv_at hl 0 rfl) ?_
            refine lv_aload_n hx hb dX8_selfish_29 rfl (lv_at hl 4 rfl) ?_
            refine g_get hC V (ci := 8) uwX8 0 rfl rfl 1 (by decide) w_913 rfl rfl dX8_selfish_30 ?_
            refine lv_iconst (v := (nI 0)) hx hb dX8_selfish_33 (by decide +kernel) ?_
            refine g_iald hC V 1 rfl (vp_in_nI (by decide) (by decide)) (v := (nI n)) (by rw [nI_clamp (by decide)]; first | rfl | exact h_a.2.1) dX8_selfish_34 ?_
            refine lv_icmp_ge (tgt := 78) hx hb dX8_selfish_35 (by decide) (fun c_5 => ?_) (fun c_5 => ?_)
            · skip
              have c_5 := b_le (by omega) (by omega) c_5
              refine lv_iload hx hb dX8_selfish_78 (lv_at hl 1 rfl) ?_
              refine lv_if_ne (tgt := 86) hx hb dX8_selfish_80 (by decide) (fun c_6 => ?_) (fun c_6 => ?_)
              · skip
                refine lv_iload_n hx hb dX8_selfish_86 rfl (lv_at hl 3 rfl) ?_
                refine lv_iload_n hx hb dX8_selfish_87 rfl (lv_at hl 5 rfl) ?_
                refine lv_icmp_ne (tgt := 93) hx hb dX8_selfish_88 (by decide) (fun c_7 => ?_) (fun c_7 => ?_)
                · skip
                  refine lv_iinc (v := (x9_2 + 1)) (lv' := [(2, .int (x9_2 + 1)), (5, .int (nI k27)), (4, .int x27_4), (3, .int (nI k9)), (0, .ref o), (1, .int k)]) hx hb dX8_selfish_93 hl (k := 3) rfl rfl (by decide) rfl (fun ls hl => ?_)
                  refine lv_iinc (v := (nI (k9 + 1))) (lv' := [(3, .int (nI (k9 + 1))), (2, .int (x9_2 + 1)), (5, .int (nI k27)), (4, .int x27_4), (0, .ref o), (1, .int k)]) hx hb dX8_selfish_96 hl (k := 3) rfl (nI_1 _) (by decide) rfl (fun ls hl => ?_)
                  refine lv_goto (tgt := 9) hx hb dX8_selfish_99 (by decide) ?_
                  exact ih_9 (k9 + 1) (x9_2 + 1) (by omega) (by omega) _ _ _ V (lv_sub hl [0, 1, 4, 5] rfl)
                · skip
                  refine lv_iload_n hx hb dX8_selfish_91 rfl (lv_at hl 2 rfl) ?_
                  exact g_iret (Qr := (q_m_selfish T n o k w0 g1 g2 g3 g4 tp w6 w7 w8 w9 w10 w11 w12 w13 w14 g15 w16 g17 w18 w19 g20 w21 g22 g23 g24 w25 w26 w27 g28 g29 w30 g31 g32 g33 fa)) hC V ⟨(Nat.le_of_ble_eq_true rfl), (Nat.le_of_ble_eq_true rfl)⟩ ⟨(nI k9), rfl, rfl⟩ dX8_selfish_92
              · skip
                refine lv_goto (tgt := 96) hx hb dX8_selfish_83 (by decide) ?_
                refine lv_iinc (v := (nI (k9 + 1))) (lv' := [(3, .int (nI (k9 + 1))), (5, .int (nI k27)), (4, .int x27_4), (2, .int x9_2), (0, .ref o), (1, .int k)]) hx hb dX8_selfish_96 hl (k := 2) rfl (nI_1 _) (by decide) rfl (fun ls hl => ?_)
                refine lv_goto (tgt := 9) hx hb dX8_selfish_99 (by decide) ?_
                exact ih_9 (k9 + 1) x9_2 (by omega) (by omega) _ _ _ V (lv_sub hl [0, 3, 4, 5] rfl)
            · skip
              have c_5 := b_nle (by omega) (by omega) c_5
              refine lv_iload hx hb dX8_selfish_38 (lv_at hl 1 rfl) ?_
              refine lv_if_eq (tgt := 78) hx hb dX8_selfish_40 (by decide) (fun c_8 => ?_) (fun c_8 => ?_)
              · skip
                refine lv_iload hx hb dX8_selfish_78 (lv_at hl 1 rfl) ?_
                refine lv_if_ne (tgt := 86) hx hb dX8_selfish_80 (by decide) (fun c_9 => ?_) (fun c_9 => ?_)
                · skip
                  refine lv_iload_n hx hb dX8_selfish_86 rfl (lv_at hl 3 rfl) ?_
                  refine lv_iload_n hx hb dX8_selfish_87 rfl (lv_at hl 5 rfl) ?_
                  refine lv_icmp_ne (tgt := 93) hx hb dX8_selfish_88 (by decide) (fun c_10 => ?_) (fun c_10 => ?_)
                  · skip
                    refine lv_iinc (v := (x9_2 + 1)) (lv' := [(2, .int (x9_2 + 1)), (5, .int (nI k27)), (4, .int x27_4), (3, .int (nI k9)), (0, .ref o), (1, .int k)]) hx hb dX8_selfish_93 hl (k := 3) rfl rfl (by decide) rfl (fun ls hl => ?_)
                    refine lv_iinc (v := (nI (k9 + 1))) (lv' := [(3, .int (nI (k9 + 1))), (2, .int (x9_2 + 1)), (5, .int (nI k27)), (4, .int x27_4), (0, .ref o), (1, .int k)]) hx hb dX8_selfish_96 hl (k := 3) rfl (nI_1 _) (by decide) rfl (fun ls hl => ?_)
                    refine lv_goto (tgt := 9) hx hb dX8_selfish_99 (by decide) ?_
                    exact ih_9 (k9 + 1) (x9_2 + 1) (by omega) (by omega) _ _ _ V (lv_sub hl [0, 1, 4, 5] rfl)
                  · skip
                    refine lv_iload_n hx hb dX8_selfish_91 rfl (lv_at hl 2 rfl) ?_
                    exact g_iret (Qr := (q_m_selfish T n o k w0 g1 g2 g3 g4 tp w6 w7 w8 w9 w10 w11 w12 w13 w14 g15 w16 g17 w18 w19 g20 w21 g22 g23 g24 w25 w26 w27 g28 g29 w30 g31 g32 g33 fa)) hC V ⟨(Nat.le_of_ble_eq_true rfl), (Nat.le_of_ble_eq_true rfl)⟩ ⟨(nI k9), rfl, rfl⟩ dX8_selfish_92
                · skip
                  refine lv_goto (tgt := 96) hx hb dX8_selfish_83 (by decide) ?_
                  refine lv_iinc (v := (nI (k9 + 1))) (lv' := [(3, .int (nI (k9 + 1))), (5, .int (nI k27)), (4, .int x27_4), (2, .int x9_2), (0, .ref o), (1, .int k)]) hx hb dX8_selfish_96 hl (k := 2) rfl (nI_1 _) (by decide) rfl (fun ls hl => ?_)
                  refine lv_goto (tgt := 9) hx hb dX8_selfish_99 (by decide) ?_
                  exact ih_9 (k9 + 1) x9_2 (by omega) (by omega) _ _ _ V (lv_sub hl [0, 3, 4, 5] rfl)
              · skip
                refine lv_aload_n hx hb dX8_selfish_43 rfl (lv_at hl 4 rfl) ?_
                refine lv_iload hx hb dX8_selfish_44 (lv_at hl 0 rfl) ?_
                refine lv_iload_n hx hb dX8_selfish_46 rfl (lv_at hl 2 rfl) ?_
                refine lv_iconst (v := (nI 1)) hx hb dX8_selfish_47 (by decide +kernel) ?_
                refine lv_iload hx hb dX8_selfish_48 (lv_at hl 0 rfl) ?_
                refine lv_ishl hx hb dX8_selfish_50 ?_
                refine lv_ixor hx hb dX8_selfish_51 ?_
                refine g_callV (wr := []) (nA := 2) hC V hl.1 (m_payOf l D T n o k27 ((nI k9) ^^^ ((nI 1) <<< ((nI k27) &&& 31))) (nI 0) g1 g2 g3 g4 tp w6 w7 w8 w9 w10 w11 w12 w13 w14 g15 w16 g17 w18 w19 g20 w21 g22 g23 g24 w25 w26 w27 g28 g29 w30 g31 g32 g33 fa h_a (by first | assumption | omega)) w_1269 w_1271 w_s68 w_9 w_1272 (by decide +kernel) rfl ⟨(Nat.le_of_ble_eq_true rfl), (Nat.le_of_ble_eq_true rfl)⟩ 0 (ci := 8) rfl rfl [0, 1] [] rfl rfl rfl rfl (by decide) (Nat.le_of_ble_eq_true rfl) dX8_selfish_52 ⟨(Nat.le_of_ble_eq_true rfl), (Nat.le_of_ble_eq_true rfl)⟩ rfl (fun r w1 H locs hQ V => ?_)
                obtain ⟨z_11, rfl, rfl⟩ := hQ
                have V : gW D T A s [(o, .inr (8, [.int (nI 0), .ref g1, .ref g2, .ref g3, .ref g4, .int (nI tp), .int w6, .int w7, .int w8, .int w9, .int w10, .int w11, .int w12, .int w13, .int w14, .ref g15, .int w16, .ref g17, .int w18, .int w19, .ref g20, .int w21, .ref g22, .ref g23, .ref g24, .int w25, .int w26, .int w27, .ref g28, .ref g29, .int w30, .ref g31, .ref g32, .ref g33])), (g1, .inl (T 0, 282, .inl fa))] H locs := V
                show W p l e _ s m args below meth c H locs _ _ _ (F0 m 55 ls [.int z_11])
                refine lv_aload_n hx hb dX8_selfish_55 rfl (lv_at hl 4 rfl) ?_
                refine lv_iload hx hb dX8_selfish_56 (lv_at hl 0 rfl) ?_
                refine lv_iload_n hx hb dX8_selfish_58 rfl (lv_at hl 2 rfl) ?_
                refine g_callV (wr := []) (nA := 2) hC V hl.1 (m_payOf l D T n o k27 (nI k9) (nI 0) g1 g2 g3 g4 tp w6 w7 w8 w9 w10 w11 w12 w13 w14 g15 w16 g17 w18 w19 g20 w21 g22 g23 g24 w25 w26 w27 g28 g29 w30 g31 g32 g33 fa h_a (by first | assumption | omega)) w_1269 w_1271 w_s68 w_9 w_1272 (by decide +kernel) rfl ⟨(Nat.le_of_ble_eq_true rfl), (Nat.le_of_ble_eq_true rfl)⟩ 0 (ci := 8) rfl rfl [0, 1] [] rfl rfl rfl rfl (by decide) (Nat.le_of_ble_eq_true rfl) dX8_selfish_59 ⟨(Nat.le_of_ble_eq_true rfl), (Nat.le_of_ble_eq_true rfl)⟩ rfl (fun r w1 H locs hQ V => ?_)
                obtain ⟨z_12, rfl, rfl⟩ := hQ
                have V : gW D T A s [(o, .inr (8, [.int (nI 0), .ref g1, .ref g2, .ref g3, .ref g4, .int (nI tp), .int w6, .int w7, .int w8, .int w9, .int w10, .int w11, .int w12, .int w13, .int w14, .ref g15, .int w16, .ref g17, .int w18, .int w19, .ref g20, .int w21, .ref g22, .ref g23, .ref g24, .int w25, .int w26, .int w27, .ref g28, .ref g29, .int w30, .ref g31, .ref g32, .ref g33])), (g1, .inl (T 0, 282, .inl fa))] H locs := V
                show W p l e _ s m args below meth c H locs _ _ _ (F0 m 62 ls [.int z_12, .int z_11])
                refine lv_icmp_gt (tgt := 69) hx hb dX8_selfish_62 (by decide) (fun c_13 => ?_) (fun c_13 => ?_)
                · skip
                  refine lv_iconst (v := (nI 0)) hx hb dX8_selfish_69 (by decide +kernel) ?_
                  refine lv_istore (lv' := [(4, .int (nI 0)), (5, .int (nI k27)), (3, .int (nI k9)), (2, .int x9_2), (0, .ref o), (1, .int k)]) hx hb dX8_selfish_70 hl (by decide) rfl (fun ls hl => ?_)
                  refine lv_iinc (v := (nI (k27 + 1))) (lv' := [(5, .int (nI (k27 + 1))), (4, .int (nI 0)), (3, .int (nI k9)), (2, .int x9_2), (0, .ref o), (1, .int k)]) hx hb dX8_selfish_72 hl (k := 1) rfl (nI_1 _) (by decide) rfl (fun ls hl => ?_)
                  refine lv_goto (tgt := 27) hx hb dX8_selfish_75 (by decide) ?_
                  exact ih_27 (k27 + 1) (nI 0) (by omega) (by omega) _ _ _ V (lv_sub hl [0, 1, 2, 3, 4, 5] rfl)
                · skip
                  refine lv_iconst (v := (nI 1)) hx hb dX8_selfish_65 (by decide +kernel) ?_
                  refine lv_goto (tgt := 70) hx hb dX8_selfish_66 (by decide) ?_
                  refine lv_istore (lv' := [(4, .int (nI 1)), (5, .int (nI k27)), (3, .int (nI k9)), (2, .int x9_2), (0, .ref o), (1, .int k)]) hx hb dX8_selfish_70 hl (by decide) rfl (fun ls hl => ?_)
                  refine lv_iinc (v := (nI (k27 + 1))) (lv' := [(5, .int (nI (k27 + 1))), (4, .int (nI 1)), (3, .int (nI k9)), (2, .int x9_2), (0, .ref o), (1, .int k)]) hx hb dX8_selfish_72 hl (k := 1) rfl (nI_1 _) (by decide) rfl (fun ls hl => ?_)
                  refine lv_goto (tgt := 27) hx hb dX8_selfish_75 (by decide) ?_
                  exact ih_27 (k27 + 1) (nI 1) (by omega) (by omega) _ _ _ V (lv_sub hl [0, 1, 2, 3, 4, 5] rfl)
        exact L_4 _ 0 (nI 1) (by omega) (Nat.lt_succ_self _) _ _ _ V (lv_sub hl [0, 1, 2, 3, 4, 5] rfl)
  exact L_1 _ 0 (nI 0) (by omega) (Nat.lt_succ_self _) _ _ _ V (lv_sub hl [0, 1, 2, 3] rfl)
