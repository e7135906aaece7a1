def q_m_smith (T : Nat → ClassId) (n : Nat) (o : Nat) (i : Int32) (wh : Int32) (w0 : Int32) (g1 : Nat) (g2 : Nat) (g3 : Nat) (g4 : Nat) (tp : Nat) (w6 : Int32) (w7 : Int32) (w8 : Int32) (w9 : Int32) (w10 : Int32) (w11 : Int32) (w12 : Int32) (w13 : Int32) (w14 : Int32) (g15 : Nat) (w16 : Int32) (g17 : Nat) (w18 : Int32) (w19 : Int32) (g20 : Nat) (w21 : Int32) (g22 : Nat) (g23 : Nat) (g24 : Nat) (w25 : Int32) (w26 : Int32) (w27 : Int32) (g28 : Nat) (g29 : Nat) (w30 : Int32) (g31 : Nat) (g32 : Nat) (g33 : Nat) (fa : Nat → Int32) : Option Value → va_W → Prop := fun rr ww => (∃ (z : Int32), rr = some (.int z) ∧ ww = [(o, .inr (8, [.int (nI 0), .ref g1, .ref g2, .ref g3, .ref g4, .int (nI tp), .int w6, .int w7, .int w8, .int w9, .int w10, .int w11, .int w12, .int w13, .int w14, .ref g15, .int w16, .ref g17, .int w18, .int w19, .ref g20, .int w21, .ref g22, .ref g23, .ref g24, .int w25, .int w26, .int w27, .ref g28, .ref g29, .int w30, .ref g31, .ref g32, .ref g33])), (g1, .inl (T 0, 282, .inl fa))])
set_option maxHeartbeats 4000000 in
set_option maxRecDepth 100000 in
theorem m_smith (l : Launch) (D : va_G) (T : Nat → ClassId) (n : Nat) (o : Nat) (i : Int32) (wh : Int32) (w0 : Int32) (g1 : Nat) (g2 : Nat) (g3 : Nat) (g4 : Nat) (tp : Nat) (w6 : Int32) (w7 : Int32) (w8 : Int32) (w9 : Int32) (w10 : Int32) (w11 : Int32) (w12 : Int32) (w13 : Int32) (w14 : Int32) (g15 : Nat) (w16 : Int32) (g17 : Nat) (w18 : Int32) (w19 : Int32) (g20 : Nat) (w21 : Int32) (g22 : Nat) (g23 : Nat) (g24 : Nat) (w25 : Int32) (w26 : Int32) (w27 : Int32) (g28 : Nat) (g29 : Nat) (w30 : Int32) (g31 : Nat) (g32 : Nat) (g33 : Nat) (fa : Nat → Int32) (h_a : MI n fa) : Ct l yX8_smith cX8_smith 3 (some .int) 2 0 0 D T [.ref o, .int i, .int wh] [(o, .inr (8, [.int w0, .ref g1, .ref g2, .ref g3, .ref g4, .int (nI tp), .int w6, .int w7, .int w8, .int w9, .int w10, .int w11, .int w12, .int w13, .int w14, .ref g15, .int w16, .ref g17, .int w18, .int w19, .ref g20, .int w21, .ref g22, .ref g23, .ref g24, .int w25, .int w26, .int w27, .ref g28, .ref g29, .int w30, .ref g31, .ref g32, .ref g33])), (g1, .inl (T 0, 282, .inl fa))] (q_m_smith T n o i wh w0 g1 g2 g3 g4 tp w6 w7 w8 w9 w10 w11 w12 w13 w14 g15 w16 g17 w18 w19 g20 w21 g22 g23 g24 w25 w26 w27 g28 g29 w30 g31 g32 g33 fa) := by
  refine Ct.of (cc := cX8_smith) (maxL := 3) (ret := (some .int)) (by decide) (Nat.le_of_ble_eq_true rfl) ?_
  intro p e s m args below meth c A ls hC hnm V hl
  obtain ⟨hx, hb, hr, hml, hown, hts, hlocks⟩ := id hC
  generalize hH : s.heap = H at V ⊢
  clear hH
  have hl : lv_has ls 3 [(0, .ref o), (1, .int i), (2, .int wh)] := hl
  generalize hlo : ([] : List Loc) = locs at V ⊢
  clear hlo
  have ms0 := ms_rf h_a
  have hn10 := h_a.1
  refine lv_aload_n hx hb dX8_smith_0 rfl (lv_at hl 0 rfl) ?_
  refine lv_iconst (v := (nI 0)) hx hb dX8_smith_1 (by decide +kernel) ?_
  refine g_put hC V (ci := 8) uwX8 tyX8 tyX8_ok nmX8 0 rfl rfl 0 (by decide) w_912 rfl rfl rfl rfl (Nat.le_of_ble_eq_true rfl) (ws' := [(o, .inr (8, [.int (nI 0), .ref g1, .ref g2, .ref g3, .ref g4, .int (nI tp), .int w6, .int w7, .int w8, .int w9, .int w10, .int w11, .int w12, .int w13, .int w14, .ref g15, .int w16, .ref g17, .int w18, .int w19, .ref g20, .int w21, .ref g22, .ref g23, .ref g24, .int w25, .int w26, .int w27, .ref g28, .ref g29, .int w30, .ref g31, .ref g32, .ref g33])), (g1, .inl (T 0, 282, .inl fa))]) rfl dX8_smith_2 (fun H locs V => ?_)
  refine lv_aload_n hx hb dX8_smith_5 rfl (lv_at hl 0 rfl) ?_
  refine lv_iload_n hx hb dX8_smith_6 rfl (lv_at hl 1 rfl) ?_
  refine g_callV (wr := []) (nA := 1) hC V hl.1 (m_isSmith l D T n o i (nI 0) g1 g2 g3 g4 tp w6 w7 w8 w9 w10 w11 w12 w13 w14 g15 w16 g17 w18 w19 g20 w21 g22 g23 g24 w25 w26 w27 g28 g29 w30 g31 g32 g33 fa h_a) w_1083 w_1085 w_s46 w_9 w_1086 (by decide +kernel) rfl ⟨(Nat.le_of_ble_eq_true rfl), (Nat.le_of_ble_eq_true rfl)⟩ 0 (ci := 8) rfl rfl [0, 1] [] rfl rfl rfl rfl (by decide) (Nat.le_of_ble_eq_true rfl) dX8_smith_7 ⟨(Nat.le_of_ble_eq_true rfl), (Nat.le_of_ble_eq_true rfl)⟩ rfl (fun r w1 H locs hQ V => ?_)
  rcases hQ with ⟨j_1, rfl, rfl, f_2, f_3⟩ | ⟨rfl, rfl⟩
  · have V : gW D T A s [(o, .inr (8, [.int (nI 0), .ref g1, .ref g2, .ref g3, .ref g4, .int (nI tp), .int w6, .int w7, .int w8, .int w9, .int w10, .int w11, .int w12, .int w13, .int w14, .ref g15, .int w16, .ref g17, .int w18, .int w19, .ref g20, .int w21, .ref g22, .ref g23, .ref g24, .int w25, .int w26, .int w27, .ref g28, .ref g29, .int w30, .ref g31, .ref g32, .ref g33])), (g1, .inl (T 0, 282, .inl fa))] H locs := V
    show W p l e _ s m args below meth c H locs _ _ _ (F0 m 10 ls [.int (nI 1)])
    rw [f_2] at hl
    refine lv_if_eq (tgt := 25) hx hb dX8_smith_10 (by decide) (fun c => absurd (show (nI 1) = 0 from c) (by decide +kernel)) (fun _ => ?_)
    refine lv_iload_n hx hb dX8_smith_13 rfl (lv_at hl 2 rfl) ?_
    refine lv_i2l (v := wh.toInt64) hx hb dX8_smith_14 rfl ?_
    refine lv_lconst (v := (nI 0).toInt64) hx hb dX8_smith_15 (by decide +kernel) ?_
    refine lv_ldc2 (v := (9)) hx hb hown (hts _ w_1087) dX8_smith_16 ?_
    refine g_vl (y := (nI 9).toInt64) (by decide +kernel) ?_
    refine g_callSU (nA := 3) hC V hl.1 (m_within l D T wh (nI 0) (nI 9)) w_1023 w_1024 w_9 w_1025 (by decide +kernel) rfl ⟨(Nat.le_of_ble_eq_true rfl), (Nat.le_of_ble_eq_true rfl)⟩ [] rfl rfl (Nat.le_of_ble_eq_true rfl) dX8_smith_19 ⟨(Nat.le_of_ble_eq_true rfl), (Nat.le_of_ble_eq_true rfl)⟩ rfl (fun r w1 H locs hQ V => ?_)
    rcases hQ with ⟨rfl, rfl, f_4, f_5⟩ | ⟨rfl, rfl, f_6⟩
    · have V : gW D T A s [(o, .inr (8, [.int (nI 0), .ref g1, .ref g2, .ref g3, .ref g4, .int (nI tp), .int w6, .int w7, .int w8, .int w9, .int w10, .int w11, .int w12, .int w13, .int w14, .ref g15, .int w16, .ref g17, .int w18, .int w19, .ref g20, .int w21, .ref g22, .ref g23, .ref g24, .int w25, .int w26, .int w27, .ref g28, .ref g29, .int w30, .ref g31, .ref g32, .ref g33])), (g1, .inl (T 0, 282, .inl fa))] H locs := V _ [] rfl rfl rfl (by decide +kernel) rfl
      show W p l e _ s m args below meth c H locs _ _ _ (F0 m 22 ls [.int (nI 1)])
      obtain ⟨jw, hjw1, hjw2, ejw⟩ := g_rng (by first | decide | omega) (by first | decide | omega) f_4 f_5
      rw [ejw] at hl
      refine lv_if_ne (tgt := 28) hx hb dX8_smith_22 (by decide) (fun _ => ?_) (fun c => absurd (show (nI 1) = 0 from c) (by decide +kernel))
      refine lv_iload_n hx hb dX8_smith_28 rfl (lv_at hl 2 rfl) ?_
      refine lv_bipush (v := (nI 9)) hx hb dX8_smith_29 (by decide +kernel) ?_
      refine lv_icmp_ne (tgt := 50) hx hb dX8_smith_31 (by decide) (fun c_7 => ?_) (fun c_7 => ?_)
      · skip
        have c_7 := b_ne (by omega) (by omega) c_7
        refine lv_aload_n hx hb dX8_smith_50 rfl (lv_at hl 0 rfl) ?_
        refine g_get hC V (ci := 8) uwX8 0 rfl rfl 1 (by decide) w_913 rfl rfl dX8_smith_51 ?_
        refine lv_iconst (v := (nI 4)) hx hb dX8_smith_54 (by decide +kernel) ?_
        refine lv_bipush (v := (nI 10)) hx hb dX8_smith_55 (by decide +kernel) ?_
        refine lv_iload_n hx hb dX8_smith_57 rfl (lv_at hl 2 rfl) ?_
        refine lv_imul hx hb dX8_smith_58 ?_
        refine g_vi (y := (nI (10 * jw))) (pk_mul _ _) ?_
        refine lv_iadd hx hb dX8_smith_59 ?_
        refine g_vi (y := (nI (4 + (10 * jw)))) (nI_add _ _) ?_
        refine lv_iload_n hx hb dX8_smith_60 rfl (lv_at hl 1 rfl) ?_
        refine lv_iadd hx hb dX8_smith_61 ?_
        refine g_vi (y := (nI ((4 + (10 * jw)) + j_1))) (nI_add _ _) ?_
        refine g_iald hC V 1 rfl (vp_in_nI (by omega) (by omega)) (v := (fa ((4 + (10 * jw)) + j_1))) (congrArg _ (nI_clamp (by omega))) dX8_smith_62 ?_
        exact g_iret (Qr := (q_m_smith T n o i wh w0 g1 g2 g3 g4 tp w6 w7 w8 w9 w10 w11 w12 w13 w14 g15 w16 g17 w18 w19 g20 w21 g22 g23 g24 w25 w26 w27 g28 g29 w30 g31 g32 g33 fa)) hC V ⟨(Nat.le_of_ble_eq_true rfl), (Nat.le_of_ble_eq_true rfl)⟩ ⟨(fa ((4 + (10 * jw)) + j_1)), rfl, rfl⟩ dX8_smith_63
      · skip
        have c_7 := b_eq (by omega) (by omega) c_7
        refine lv_aload_n hx hb dX8_smith_34 rfl (lv_at hl 0 rfl) ?_
        refine lv_iload_n hx hb dX8_smith_35 rfl (lv_at hl 1 rfl) ?_
        refine g_callV (wr := []) (nA := 1) hC V hl.1 (m_isDone l D T o j_1 (nI 0) g1 g2 g3 g4 tp w6 w7 w8 w9 w10 w11 w12 w13 w14 g15 w16 g17 w18 w19 g20 w21 g22 g23 g24 w25 w26 w27 g28 g29 w30 g31 g32 g33 fa (by first | assumption | omega)) w_1088 w_1090 w_s47 w_9 w_1091 (by decide +kernel) rfl ⟨(Nat.le_of_ble_eq_true rfl), (Nat.le_of_ble_eq_true rfl)⟩ 0 (ci := 8) rfl rfl [0, 1] [] rfl rfl rfl rfl (by decide) (Nat.le_of_ble_eq_true rfl) dX8_smith_36 ⟨(Nat.le_of_ble_eq_true rfl), (Nat.le_of_ble_eq_true rfl)⟩ rfl (fun r w1 H locs hQ V => ?_)
        rcases hQ with ⟨rfl, rfl, f_8⟩ | ⟨rfl, rfl, f_9⟩
        · have V : gW D T A s [(o, .inr (8, [.int (nI 0), .ref g1, .ref g2, .ref g3, .ref g4, .int (nI tp), .int w6, .int w7, .int w8, .int w9, .int w10, .int w11, .int w12, .int w13, .int w14, .ref g15, .int w16, .ref g17, .int w18, .int w19, .ref g20, .int w21, .ref g22, .ref g23, .ref g24, .int w25, .int w26, .int w27, .ref g28, .ref g29, .int w30, .ref g31, .ref g32, .ref g33])), (g1, .inl (T 0, 282, .inl fa))] H locs := V
          show W p l e _ s m args below meth c H locs _ _ _ (F0 m 39 ls [.int (nI 1)])
          refine lv_if_eq (tgt := 46) hx hb dX8_smith_39 (by decide) (fun c => absurd (show (nI 1) = 0 from c) (by decide +kernel)) (fun _ => ?_)
          refine lv_iconst (v := (nI 1)) hx hb dX8_smith_42 (by decide +kernel) ?_
          refine lv_goto (tgt := 63) hx hb dX8_smith_43 (by decide) ?_
          exact g_iret (Qr := (q_m_smith T n o i wh w0 g1 g2 g3 g4 tp w6 w7 w8 w9 w10 w11 w12 w13 w14 g15 w16 g17 w18 w19 g20 w21 g22 g23 g24 w25 w26 w27 g28 g29 w30 g31 g32 g33 fa)) hC V ⟨(Nat.le_of_ble_eq_true rfl), (Nat.le_of_ble_eq_true rfl)⟩ ⟨(nI 1), rfl, rfl⟩ dX8_smith_63
        · have V : gW D T A s [(o, .inr (8, [.int (nI 0), .ref g1, .ref g2, .ref g3, .ref g4, .int (nI tp), .int w6, .int w7, .int w8, .int w9, .int w10, .int w11, .int w12, .int w13, .int w14, .ref g15, .int w16, .ref g17, .int w18, .int w19, .ref g20, .int w21, .ref g22, .ref g23, .ref g24, .int w25, .int w26, .int w27, .ref g28, .ref g29, .int w30, .ref g31, .ref g32, .ref g33])), (g1, .inl (T 0, 282, .inl fa))] H locs := V
          show W p l e _ s m args below meth c H locs _ _ _ (F0 m 39 ls [.int (nI 0)])
          refine lv_if_eq (tgt := 46) hx hb dX8_smith_39 (by decide) (fun _ => ?_) (fun c => absurd (show (nI 0) = 0 by decide +kernel) c)
          refine lv_iconst (v := (nI 0)) hx hb dX8_smith_46 (by decide +kernel) ?_
          refine lv_goto (tgt := 63) hx hb dX8_smith_47 (by decide) ?_
          exact g_iret (Qr := (q_m_smith T n o i wh w0 g1 g2 g3 g4 tp w6 w7 w8 w9 w10 w11 w12 w13 w14 g15 w16 g17 w18 w19 g20 w21 g22 g23 g24 w25 w26 w27 g28 g29 w30 g31 g32 g33 fa)) hC V ⟨(Nat.le_of_ble_eq_true rfl), (Nat.le_of_ble_eq_true rfl)⟩ ⟨(nI 0), rfl, rfl⟩ dX8_smith_63
    · have V : gW D T A s [(o, .inr (8, [.int (nI 0), .ref g1, .ref g2, .ref g3, .ref g4, .int (nI tp), .int w6, .int w7, .int w8, .int w9, .int w10, .int w11, .int w12, .int w13, .int w14, .ref g15, .int w16, .ref g17, .int w18, .int w19, .ref g20, .int w21, .ref g22, .ref g23, .ref g24, .int w25, .int w26, .int w27, .ref g28, .ref g29, .int w30, .ref g31, .ref g32, .ref g33])), (g1, .inl (T 0, 282, .inl fa))] H locs := V _ [] rfl rfl rfl (by decide +kernel) rfl
      show W p l e _ s m args below meth c H locs _ _ _ (F0 m 22 ls [.int (nI 0)])
      refine lv_if_ne (tgt := 28) hx hb dX8_smith_22 (by decide) (fun c => absurd (show (nI 0) = 0 by decide +kernel) c) (fun _ => ?_)
      refine lv_bipush (v := (-2)) hx hb dX8_smith_25 (by decide +kernel) ?_
      exact g_iret (Qr := (q_m_smith T n o i wh w0 g1 g2 g3 g4 tp w6 w7 w8 w9 w10 w11 w12 w13 w14 g15 w16 g17 w18 w19 g20 w21 g22 g23 g24 w25 w26 w27 g28 g29 w30 g31 g32 g33 fa)) hC V ⟨(Nat.le_of_ble_eq_true rfl), (Nat.le_of_ble_eq_true rfl)⟩ ⟨(-2), rfl, rfl⟩ dX8_smith_27
  · have V : gW D T A s [(o, .inr (8, [.int (nI 0), .ref g1, .ref g2, .ref g3, .ref g4, .int (nI tp), .int w6, .int w7, .int w8, .int w9, .int w10, .int w11, .int w12, .int w13, .int w14, .ref g15, .int w16, .ref g17, .int w18, .int w19, .ref g20, .int w21, .ref g22, .ref g23, .ref g24, .int w25, .int w26, .int w27, .ref g28, .ref g29, .int w30, .ref g31, .ref g32, .ref g33])), (g1, .inl (T 0, 282, .inl fa))] H locs := V
    show W p l e _ s m args below meth c H locs _ _ _ (F0 m 10 ls [.int (nI 0)])
    refine lv_if_eq (tgt := 25) hx hb dX8_smith_10 (by decide) (fun _ => ?_) (fun c => absurd (show (nI 0) = 0 by decide +kernel) c)
    refine lv_bipush (v := (-2)) hx hb dX8_smith_25 (by decide +kernel) ?_
    exact g_iret (Qr := (q_m_smith T n o i wh w0 g1 g2 g3 g4 tp w6 w7 w8 w9 w10 w11 w12 w13 w14 g15 w16 g17 w18 w19 g20 w21 g22 g23 g24 w25 w26 w27 g28 g29 w30 g31 g32 g33 fa)) hC V ⟨(Nat.le_of_ble_eq_true rfl), (Nat.le_of_ble_eq_true rfl)⟩ ⟨(-2), rfl, rfl⟩ dX8_smith_27

theorem nv_r {v : Int32} {a b : Nat} (ha : a + 1 = b) (hb : b < 2147483648) (h : v < nI 0 ∨ nI a < v) : v < 0 ∨ nI b ≤ v := by
  rcases h with h | h
  · exact Or.inl h
  · refine Or.inr ?_
    rw [Int32.lt_iff_toInt_lt, nI_toInt (by omega)] at h
    rw [Int32.le_iff_toInt_le, nI_toInt hb]
    omega
theorem nv_n {v : Int32} {a b : Nat} (ha : a + 1 = b) (hb : b < 2147483648) (h : ¬ nI a < v) : ¬ nI b ≤ v := by
  intro h2
  apply h
  rw [Int32.le_iff_toInt_le, nI_toInt hb] at h2
  rw [Int32.lt_iff_toInt_lt, nI_toInt (by omega)]
  omega
/-- one row's number changed -/
theorem rm_st {f : Nat → Int32} {r x : Nat} (h : ∀ i, i < 4 → bd (f i) 41) (hx : x ≤ 40) : ∀ i, i < 4 → bd (upd f r (nI x) i) 41 := up_all (p := fun y => bd y 41) h (fun _ => bd_nI (by omega))
theorem rs_st {f : Nat → Int32} {r x : Nat} (h : ∀ i, i < 4 → (f i = -1 ∨ bd (f i) 4)) (hx : x ≤ 3) : ∀ i, i < 4 → (upd f r (nI x) i = -1 ∨ bd (upd f r (nI x) i) 4) := up_all (p := fun y => y = -1 ∨ bd y 4) h (fun _ => Or.inr (bd_nI (by omega)))

theorem up_ge {f : Nat → Int32} {j k : Nat} {x : Int32} (h : j < k) : upd f k x j = f j := up_other (by omega)
theorem im_mi {n m : Nat} {f g : Nat → Int32} (h : MI n f) (e : ∀ j, j < 94 → g (m + j) = f j) : MI n (fun j => g (m + j)) := mi_ext h e
theorem im_old {n m : Nat} {f g : Nat → Int32} (h : MI n (fun j => f (m + j))) (e : ∀ j, j < 94 → g (m + j) = f (m + j)) : MI n (fun j => g (m + j)) := mi_ext h e
