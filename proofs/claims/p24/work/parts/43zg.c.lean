def q_m_bitsOf_f (T : Nat → ClassId) (x : Int32) : Option Value → va_W → Prop := fun rr ww => (∃ (z : Int32), rr = some (.int z) ∧ ww = [] ∧ z = btS x 12)
set_option maxHeartbeats 4000000 in
set_option maxRecDepth 100000 in
theorem m_bitsOf_f (l : Launch) (D : va_G) (T : Nat → ClassId) (x : Int32) : Ct l yX8_bitsOf cX8_bitsOf 4 (some .int) 1 0 0 D T [.long x.toInt64] [] (q_m_bitsOf_f T x) := by
  refine Ct.of (cc := cX8_bitsOf) (maxL := 4) (ret := (some .int)) (by decide) (Nat.le_of_ble_eq_true rfl) ?_
  intro p e s m args below meth c A ls hC hnm V hl
  obtain ⟨hx, hb, hr, hml, hown, hts, hlocks⟩ := id hC
  generalize hH : s.heap = H at V ⊢
  clear hH
  have hl : lv_has ls 4 [(0, .long x.toInt64)] := hl
  generalize hlo : ([] : List Loc) = locs at V ⊢
  clear hlo
  refine lv_iconst (v := (nI 0)) hx hb dX8_bitsOf_0 (by decide +kernel) ?_
  refine lv_istore_n (lv' := [(2, .int (nI 0)), (0, .long x.toInt64)]) hx hb dX8_bitsOf_1 rfl hl (by decide) rfl (fun ls hl => ?_)
  refine lv_iconst (v := (nI 0)) hx hb dX8_bitsOf_2 (by decide +kernel) ?_
  refine lv_istore_n (lv' := [(3, .int (nI 0)), (2, .int (nI 0)), (0, .long x.toInt64)]) hx hb dX8_bitsOf_3 rfl hl (by decide) rfl (fun ls hl => ?_)
  have L_1 : ∀ (fu : Nat) (k4 : Nat) (x2 : Int32), k4 ≤ 12 → x2 = btS x k4 → 12 - k4 < fu → ∀ (H : Heap) (locs : List Loc) (ls : Array Slot), gW D T A s [] H locs → lv_has ls 4 [(3, .int (nI k4)), (2, .int x2), (0, .long x.toInt64)] → W p l e (rmD 1 0 0) s m args below meth c H locs 0 0 (MQ below (gQ D A (q_m_bitsOf_f T x)) args s 0 0 A) (F0 m 4 ls []) := by
    intro fu_4
    induction fu_4 with
    | zero => intro k4 x2 hk4 hx2 hmu; exact absurd hmu (Nat.not_lt_zero _)
    | succ fu_4 ih_4 =>
      intro k4 x2 hk4 hx2 hmu_4 H locs ls V hl
      refine lv_iload_n hx hb dX8_bitsOf_4 rfl (lv_at hl 0 rfl) ?_
      refine lv_bipush (v := (nI 12)) hx hb dX8_bitsOf_5 (by decide +kernel) ?_
      refine lv_icmp_ge (tgt := 32) hx hb dX8_bitsOf_7 (by decide) (fun c_2 => ?_) (fun c_2 => ?_)
      · skip
        have c_2 := b_le (by omega) (by omega) c_2
        refine lv_iload_n hx hb dX8_bitsOf_32 rfl (lv_at hl 1 rfl) ?_
        exact g_iret (Qr := (q_m_bitsOf_f T x)) hC V ⟨(Nat.le_of_ble_eq_true rfl), (Nat.le_of_ble_eq_true rfl)⟩ ⟨x2, rfl, rfl, (by rw [hx2]; congr 1; omega)⟩ dX8_bitsOf_33
      · skip
        have c_2 := b_nle (by omega) (by omega) c_2
        refine lv_iload_n hx hb dX8_bitsOf_10 rfl (lv_at hl 1 rfl) ?_
        refine lv_lload_n hx hb dX8_bitsOf_11 rfl (lv_at hl 2 rfl) ?_
        refine lv_iload_n hx hb dX8_bitsOf_12 rfl (lv_at hl 0 rfl) ?_
        refine g_callS (wr := []) (nA := 2) hC V hl.1 (m_isIn_f l D T x k4 (by omega)) w_1130 w_1131 w_9 w_1132 (by decide +kernel) rfl ⟨(Nat.le_of_ble_eq_true rfl), (Nat.le_of_ble_eq_true rfl)⟩ [] [] rfl rfl rfl rfl (by decide) (Nat.le_of_ble_eq_true rfl) dX8_bitsOf_13 ⟨(Nat.le_of_ble_eq_true rfl), (Nat.le_of_ble_eq_true rfl)⟩ rfl (fun r w1 H locs hQ V => ?_)
        rcases hQ with ⟨rfl, rfl, f_3⟩ | ⟨rfl, rfl, f_4⟩
        · have V : gW D T A s [] H locs := V
          show W p l e _ s m args below meth c H locs _ _ _ (F0 m 16 ls [.int (nI 1), .int x2])
          refine lv_if_eq (tgt := 23) hx hb dX8_bitsOf_16 (by decide) (fun c => absurd (show (nI 1) = 0 from c) (by decide +kernel)) (fun _ => ?_)
          refine lv_iconst (v := (nI 1)) hx hb dX8_bitsOf_19 (by decide +kernel) ?_
          refine lv_goto (tgt := 24) hx hb dX8_bitsOf_20 (by decide) ?_
          refine lv_iadd hx hb dX8_bitsOf_24 ?_
          refine lv_istore_n (lv' := [(2, .int (x2 + (nI 1))), (3, .int (nI k4)), (0, .long x.toInt64)]) hx hb dX8_bitsOf_25 rfl hl (by decide) rfl (fun ls hl => ?_)
          refine lv_iinc (v := (nI (k4 + 1))) (lv' := [(3, .int (nI (k4 + 1))), (2, .int (x2 + (nI 1))), (0, .long x.toInt64)]) hx hb dX8_bitsOf_26 hl (k := 1) rfl (nI_1 _) (by decide) rfl (fun ls hl => ?_)
          refine lv_goto (tgt := 4) hx hb dX8_bitsOf_29 (by decide) ?_
          exact ih_4 (k4 + 1) (x2 + (nI 1)) (by omega) (bt_y hx2 f_3) (by omega) _ _ _ V (lv_sub hl [0, 1, 2] rfl)
        · have V : gW D T A s [] H locs := V
          show W p l e _ s m args below meth c H locs _ _ _ (F0 m 16 ls [.int (nI 0), .int x2])
          refine lv_if_eq (tgt := 23) hx hb dX8_bitsOf_16 (by decide) (fun _ => ?_) (fun c => absurd (show (nI 0) = 0 by decide +kernel) c)
          refine lv_iconst (v := (nI 0)) hx hb dX8_bitsOf_23 (by decide +kernel) ?_
          refine lv_iadd hx hb dX8_bitsOf_24 ?_
          refine lv_istore_n (lv' := [(2, .int (x2 + (nI 0))), (3, .int (nI k4)), (0, .long x.toInt64)]) hx hb dX8_bitsOf_25 rfl hl (by decide) rfl (fun ls hl => ?_)
          refine lv_iinc (v := (nI (k4 + 1))) (lv' := [(3, .int (nI (k4 + 1))), (2, .int (x2 + (nI 0))), (0, .long x.toInt64)]) hx hb dX8_bitsOf_26 hl (k := 1) rfl (nI_1 _) (by decide) rfl (fun ls hl => ?_)
          refine lv_goto (tgt := 4) hx hb dX8_bitsOf_29 (by decide) ?_
          exact ih_4 (k4 + 1) (x2 + (nI 0)) (by omega) (bt_n hx2 f_4) (by omega) _ _ _ V (lv_sub hl [0, 1, 2] rfl)
  exact L_1 _ 0 (nI 0) (by omega) rfl (Nat.lt_succ_self _) _ _ _ V (lv_sub hl [0, 1, 2] rfl)

def q_m_bestRound_f (T : Nat → ClassId) (n : Nat) (o : Nat) (le : Int32) (wh : Int32) (w0 : Int32) (g1 : Nat) (g2 : Nat) (g3 : Nat) (g4 : Nat) (tp : Nat) (w6 : Int32) (w7 : Int32) (w8 : Int32) (w9 : Int32) (w10 : Int32) (w11 : Int32) (w12 : Int32) (w13 : Int32) (w14 : Int32) (g15 : Nat) (w16 : Int32) (g17 : Nat) (w18 : Int32) (w19 : Int32) (g20 : Nat) (w21 : Int32) (g22 : Nat) (g23 : Nat) (g24 : Nat) (w25 : Int32) (w26 : Int32) (w27 : Int32) (g28 : Nat) (g29 : Nat) (w30 : Int32) (g31 : Nat) (g32 : Nat) (g33 : Nat) (fa : Nat → Int32) (fh : Nat → Int32) (fk : Nat → Int32) (fr : Nat → Int64) (fb : Nat → Int64) : Option Value → va_W → Prop := fun rr ww => (∃ (z : Int32) (wq : Int32) (gh : Nat → Int32) (gk : Nat → Int32) (gr : Nat → Int64) (gs : Nat → Int64), rr = some (.int z) ∧ ww = [(o, .inr (8, [.int (nI 0), .ref g1, .ref g2, .ref g3, .ref g4, .int (nI tp), .int w6, .int w7, .int w8, .int w9, .int w10, .int w11, .int w12, .int w13, .int w14, .ref g15, .int w16, .ref g17, .int w18, .int w19, .ref g20, .int wq, .ref g22, .ref g23, .ref g24, .int w25, .int w26, .int w27, .ref g28, .ref g29, .int w30, .ref g31, .ref g32, .ref g33])), (g1, .inl (T 0, 282, .inl fa)), (g15, .inl (T 0, 10, .inl gh)), (g17, .inl (T 0, 94, .inl gk)), (g20, .inl (T 1, 10, .inr (.inl gr))), (g22, .inl (T 1, 10, .inr (.inl gs)))] ∧ z = brA n fa le wh)
set_option maxHeartbeats 4000000 in
set_option maxRecDepth 100000 in
theorem m_bestRound_f (l : Launch) (D : va_G) (T : Nat → ClassId) (n : Nat) (o : Nat) (le : Int32) (wh : Int32) (w0 : Int32) (g1 : Nat) (g2 : Nat) (g3 : Nat) (g4 : Nat) (tp : Nat) (w6 : Int32) (w7 : Int32) (w8 : Int32) (w9 : Int32) (w10 : Int32) (w11 : Int32) (w12 : Int32) (w13 : Int32) (w14 : Int32) (g15 : Nat) (w16 : Int32) (g17 : Nat) (w18 : Int32) (w19 : Int32) (g20 : Nat) (w21 : Int32) (g22 : Nat) (g23 : Nat) (g24 : Nat) (w25 : Int32) (w26 : Int32) (w27 : Int32) (g28 : Nat) (g29 : Nat) (w30 : Int32) (g31 : Nat) (g32 : Nat) (g33 : Nat) (fa : Nat → Int32) (fh : Nat → Int32) (fk : Nat → Int32) (fr : Nat → Int64) (fb : Nat → Int64) (h_a : MI n fa) (h_lb : LB fa) : Ct l yX8_bestRound cX8_bestRound 7 (some .int) 4 0 0 D T [.ref o, .int le, .int wh] [(o, .inr (8, [.int w0, .ref g1, .ref g2, .ref g3, .ref g4, .int (nI tp), .int w6, .int w7, .int w8, .int w9, .int w10, .int w11, .int w12, .int w13, .int w14, .ref g15, .int w16, .ref g17, .int w18, .int w19, .ref g20, .int w21, .ref g22, .ref g23, .ref g24, .int w25, .int w26, .int w27, .ref g28, .ref g29, .int w30, .ref g31, .ref g32, .ref g33])), (g1, .inl (T 0, 282, .inl fa)), (g15, .inl (T 0, 10, .inl fh)), (g17, .inl (T 0, 94, .inl fk)), (g20, .inl (T 1, 10, .inr (.inl fr))), (g22, .inl (T 1, 10, .inr (.inl fb)))] (q_m_bestRound_f T n o le wh w0 g1 g2 g3 g4 tp w6 w7 w8 w9 w10 w11 w12 w13 w14 g15 w16 g17 w18 w19 g20 w21 g22 g23 g24 w25 w26 w27 g28 g29 w30 g31 g32 g33 fa fh fk fr fb) := by
  refine Ct.of (cc := cX8_bestRound) (maxL := 7) (ret := (some .int)) (by decide) (Nat.le_of_ble_eq_true rfl) ?_
  intro p e s m args below meth c A ls hC hnm V hl
  obtain ⟨hx, hb, hr, hml, hown, hts, hlocks⟩ := id hC
  generalize hH : s.heap = H at V ⊢
  clear hH
  have hl : lv_has ls 7 [(0, .ref o), (1, .int le), (2, .int wh)] := hl
  generalize hlo : ([] : List Loc) = locs at V ⊢
  clear hlo
  have ms0 := ms_rf h_a
  have hn10 := h_a.1
  refine lv_aload_n hx hb dX8_bestRound_0 rfl (lv_at hl 0 rfl) ?_
  refine lv_iconst (v := (nI 0)) hx hb dX8_bestRound_1 (by decide +kernel) ?_
  refine g_put hC V (ci := 8) uwX8 tyX8 tyX8_ok nmX8 0 rfl rfl 0 (by decide) w_912 rfl rfl rfl rfl (Nat.le_of_ble_eq_true rfl) (ws' := [(o, .inr (8, [.int (nI 0), .ref g1, .ref g2, .ref g3, .ref g4, .int (nI tp), .int w6, .int w7, .int w8, .int w9, .int w10, .int w11, .int w12, .int w13, .int w14, .ref g15, .int w16, .ref g17, .int w18, .int w19, .ref g20, .int w21, .ref g22, .ref g23, .ref g24, .int w25, .int w26, .int w27, .ref g28, .ref g29, .int w30, .ref g31, .ref g32, .ref g33])), (g1, .inl (T 0, 282, .inl fa)), (g15, .inl (T 0, 10, .inl fh)), (g17, .inl (T 0, 94, .inl fk)), (g20, .inl (T 1, 10, .inr (.inl fr))), (g22, .inl (T 1, 10, .inr (.inl fb)))]) rfl dX8_bestRound_2 (fun H locs V => ?_)
  refine lv_iload_n hx hb dX8_bestRound_5 rfl (lv_at hl 2 rfl) ?_
  refine lv_if_eq (tgt := 33) hx hb dX8_bestRound_6 (by decide) (fun c_1 => ?_) (fun c_1 => ?_)
  · skip
    refine lv_iload_n hx hb dX8_bestRound_33 rfl (lv_at hl 1 rfl) ?_
    refine lv_i2l (v := le.toInt64) hx hb dX8_bestRound_34 rfl ?_
    refine lv_lconst (v := (nI 1).toInt64) hx hb dX8_bestRound_35 (by decide +kernel) ?_
    refine lv_ldc2 (v := (10)) hx hb hown (hts _ w_1257) dX8_bestRound_36 ?_
    refine g_vl (y := (nI 10).toInt64) (by decide +kernel) ?_
    refine g_callSU (nA := 3) hC V hl.1 (m_within l D T le (nI 1) (nI 10)) w_1023 w_1024 w_9 w_1025 (by decide +kernel) rfl ⟨(Nat.le_of_ble_eq_true rfl), (Nat.le_of_ble_eq_true rfl)⟩ [] rfl rfl (Nat.le_of_ble_eq_true rfl) dX8_bestRound_39 ⟨(Nat.le_of_ble_eq_true rfl), (Nat.le_of_ble_eq_true rfl)⟩ rfl (fun r w1 H locs hQ V => ?_)
    rcases hQ with ⟨rfl, rfl, f_2, f_3⟩ | ⟨rfl, rfl, f_4⟩
    · have V : gW D T A s [(o, .inr (8, [.int (nI 0), .ref g1, .ref g2, .ref g3, .ref g4, .int (nI tp), .int w6, .int w7, .int w8, .int w9, .int w10, .int w11, .int w12, .int w13, .int w14, .ref g15, .int w16, .ref g17, .int w18, .int w19, .ref g20, .int w21, .ref g22, .ref g23, .ref g24, .int w25, .int w26, .int w27, .ref g28, .ref g29, .int w30, .ref g31, .ref g32, .ref g33])), (g1, .inl (T 0, 282, .inl fa)), (g15, .inl (T 0, 10, .inl fh)), (g17, .inl (T 0, 94, .inl fk)), (g20, .inl (T 1, 10, .inr (.inl fr))), (g22, .inl (T 1, 10, .inr (.inl fb)))] H locs := V _ [] rfl rfl rfl (by decide +kernel) rfl
      show W p l e _ s m args below meth c H locs _ _ _ (F0 m 42 ls [.int (nI 1)])
      obtain ⟨i, hi1, hi2, ei⟩ := g_rng (by first | decide | omega) (by first | decide | omega) f_2 f_3
      rw [ei] at hl
      have hmul : n * i ≤ 10 * 10 := Nat.mul_le_mul hn10 (by omega)
      have h2i : 1 ≤ 2 ^ i := Nat.one_le_two_pow
      refine lv_if_ne (tgt := 48) hx hb dX8_bestRound_42 (by decide) (fun _ => ?_) (fun c => absurd (show (nI 1) = 0 from c) (by decide +kernel))
      refine lv_aload_n hx hb dX8_bestRound_48 rfl (lv_at hl 0 rfl) ?_
      refine g_get hC V (ci := 8) uwX8 0 rfl rfl 1 (by decide) w_913 rfl rfl dX8_bestRound_49 ?_
      refine lv_iconst (v := (nI 0)) hx hb dX8_bestRound_52 (by decide +kernel) ?_
      refine g_iald hC V 1 rfl (vp_in_nI (by decide) (by decide)) (v := (nI n)) (by rw [nI_clamp (by decide)]; first | rfl | exact h_a.2.1) dX8_bestRound_53 ?_
      refine lv_iload_n hx hb dX8_bestRound_54 rfl (lv_at hl 1 rfl) ?_
      refine lv_imul hx hb dX8_bestRound_55 ?_
      refine g_vi (y := (nI (n * i))) (pk_mul _ _) ?_
      refine lv_bipush (v := (nI 10)) hx hb dX8_bestRound_56 (by decide +kernel) ?_
      refine lv_icmp_le (tgt := 64) hx hb dX8_bestRound_58 (by decide) (fun c_5 => ?_) (fun c_5 => ?_)
      · skip
        have c_5 := b_le (by omega) (by omega) c_5
        have hpw := pw10 c_5
        refine lv_iconst (v := (-1)) hx hb dX8_bestRound_64 (by decide +kernel) ?_
        refine lv_istore_n (lv' := [(3, .int (-1)), (0, .ref o), (1, .int (nI i)), (2, .int wh)]) hx hb dX8_bestRound_65 rfl hl (by decide) rfl (fun ls hl => ?_)
        refine lv_iconst (v := (nI 0)) hx hb dX8_bestRound_66 (by decide +kernel) ?_
        refine lv_istore (lv' := [(4, .int (nI 0)), (3, .int (-1)), (0, .ref o), (1, .int (nI i)), (2, .int wh)]) hx hb dX8_bestRound_67 hl (by decide) rfl (fun ls hl => ?_)
        have L_6 : ∀ (fu : Nat) (k69 : Nat) (x3 : Int32) (wv : Int32) (ga_ : Nat → Int32) (gb_ : Nat → Int32) (gc_ : Nat → Int64) (gd_ : Nat → Int64), k69 ≤ 2 ^ (n * i) → RBJ n fa i k69 x3 gd_ → 2 ^ (n * i) - k69 < fu → ∀ (H : Heap) (locs : List Loc) (ls : Array Slot), gW D T A s [(o, .inr (8, [.int (nI 0), .ref g1, .ref g2, .ref g3, .ref g4, .int (nI tp), .int w6, .int w7, .int w8, .int w9, .int w10, .int w11, .int w12, .int w13, .int w14, .ref g15, .int w16, .ref g17, .int w18, .int w19, .ref g20, .int wv, .ref g22, .ref g23, .ref g24, .int w25, .int w26, .int w27, .ref g28, .ref g29, .int w30, .ref g31, .ref g32, .ref g33])), (g1, .inl (T 0, 282, .inl fa)), (g15, .inl (T 0, 10, .inl ga_)), (g17, .inl (T 0, 94, .inl gb_)), (g20, .inl (T 1, 10, .inr (.inl gc_))), (g22, .inl (T 1, 10, .inr (.inl gd_)))] H locs → lv_has ls 7 [(4, .int (nI k69)), (3, .int x3), (0, .ref o), (1, .int (nI i)), (2, .int wh)] → W p l e (rmD 4 0 0) s m args below meth c H locs 0 0 (MQ below (gQ D A (q_m_bestRound_f T n o le wh w0 g1 g2 g3 g4 tp w6 w7 w8 w9 w10 w11 w12 w13 w14 g15 w16 g17 w18 w19 g20 w21 g22 g23 g24 w25 w26 w27 g28 g29 w30 g31 g32 g33 fa fh fk fr fb)) args s 0 0 A) (F0 m 69 ls []) := by
          intro fu_69
          induction fu_69 with
          | zero => intro k69 x3 wv ga_ gb_ gc_ gd_ hk69 hR hmu; exact absurd hmu (Nat.not_lt_zero _)
          | succ fu_69 ih_69 =>
            intro k69 x3 wv ga_ gb_ gc_ gd_ hk69 hR hmu_69 H locs ls V hl
            refine lv_iload hx hb dX8_bestRound_69 (lv_at hl 0 rfl) ?_
            refine lv_iconst (v := (nI 1)) hx hb dX8_bestRound_71 (by decide +kernel) ?_
            refine lv_aload_n hx hb dX8_bestRound_72 rfl (lv_at hl 2 rfl) ?_
            refine g_get hC V (ci := 8) uwX8 0 rfl rfl 1 (by decide) w_913 rfl rfl dX8_bestRound_73 ?_
            refine lv_iconst (v := (nI 0)) hx hb dX8_bestRound_76 (by decide +kernel) ?_
            refine g_iald hC V 1 rfl (vp_in_nI (by decide) (by decide)) (v := (nI n)) (by rw [nI_clamp (by decide)]; first | rfl | exact h_a.2.1) dX8_bestRound_77 ?_
            refine lv_iload_n hx hb dX8_bestRound_78 rfl (lv_at hl 3 rfl) ?_
            refine lv_imul hx hb dX8_bestRound_79 ?_
            refine g_vi (y := (nI (n * i))) (pk_mul _ _) ?_
            refine lv_ishl hx hb dX8_bestRound_80 ?_
            refine g_vi (y := (nI (2 ^ (n * i)))) (shl_pow (by omega)) ?_
            refine lv_icmp_ge (tgt := 211) hx hb dX8_bestRound_81 (by decide) (fun c_7 => ?_) (fun c_7 => ?_)
            · skip
              have c_7 := b_le (by omega) (by omega) c_7
              refine lv_iload_n hx hb dX8_bestRound_211 rfl (lv_at hl 1 rfl) ?_
              refine lv_iconst (v := (-1)) hx hb dX8_bestRound_212 (by decide +kernel) ?_
              refine lv_icmp_eq (tgt := 220) hx hb dX8_bestRound_213 (by decide) (fun c_8 => ?_) (fun c_8 => ?_)
              · skip
                refine lv_iload_n hx hb dX8_bestRound_220 rfl (lv_at hl 1 rfl) ?_
                refine lv_goto (tgt := 234) hx hb dX8_bestRound_221 (by decide) ?_
                exact g_iret (Qr := (q_m_bestRound_f T n o le wh w0 g1 g2 g3 g4 tp w6 w7 w8 w9 w10 w11 w12 w13 w14 g15 w16 g17 w18 w19 g20 w21 g22 g23 g24 w25 w26 w27 g28 g29 w30 g31 g32 g33 fa fh fk fr fb)) hC V ⟨(Nat.le_of_ble_eq_true rfl), (Nat.le_of_ble_eq_true rfl)⟩ ⟨x3, wv, ga_, gb_, gc_, gd_, rfl, rfl, (br_p (fun q => q.1 c_1) f_2 f_3 ei (by omega) (by omega) (rz_f1 hR (by omega)) (Or.inr c_8))⟩ dX8_bestRound_234
              · skip
                refine lv_iload_n hx hb dX8_bestRound_216 rfl (lv_at hl 4 rfl) ?_
                refine lv_if_ne (tgt := 224) hx hb dX8_bestRound_217 (by decide) (fun c_9 => ?_) (fun c_9 => ?_)
                · skip
                  refine lv_aload_n hx hb dX8_bestRound_224 rfl (lv_at hl 2 rfl) ?_
                  refine g_get hC V (ci := 8) uwX8 0 rfl rfl 22 (by decide) w_934 rfl rfl dX8_bestRound_225 ?_
                  refine lv_iload_n hx hb dX8_bestRound_228 rfl (lv_at hl 4 rfl) ?_
                  refine lv_bipush (v := (nI 10)) hx hb dX8_bestRound_229 (by decide +kernel) ?_
                  refine lv_isub hx hb dX8_bestRound_231 ?_
                  exact absurd (by assumption) ‹¬ wh = 0›
                · skip
                  refine lv_iload_n hx hb dX8_bestRound_220 rfl (lv_at hl 1 rfl) ?_
                  refine lv_goto (tgt := 234) hx hb dX8_bestRound_221 (by decide) ?_
                  exact g_iret (Qr := (q_m_bestRound_f T n o le wh w0 g1 g2 g3 g4 tp w6 w7 w8 w9 w10 w11 w12 w13 w14 g15 w16 g17 w18 w19 g20 w21 g22 g23 g24 w25 w26 w27 g28 g29 w30 g31 g32 g33 fa fh fk fr fb)) hC V ⟨(Nat.le_of_ble_eq_true rfl), (Nat.le_of_ble_eq_true rfl)⟩ ⟨x3, wv, ga_, gb_, gc_, gd_, rfl, rfl, (br_p (fun q => q.1 c_1) f_2 f_3 ei (by omega) (by omega) (rz_f1 hR (by omega)) (Or.inl c_9))⟩ dX8_bestRound_234
            · skip
              have c_7 := b_nle (by omega) (by omega) c_7
              refine lv_iload hx hb dX8_bestRound_84 (lv_at hl 0 rfl) ?_
              refine lv_i2l (v := (nI k69).toInt64) hx hb dX8_bestRound_86 rfl ?_
              refine g_callSU (nA := 1) hC V hl.1 (m_bitsOf_f l D T (nI k69)) w_1258 w_1259 w_9 w_1260 (by decide +kernel) rfl ⟨(Nat.le_of_ble_eq_true rfl), (Nat.le_of_ble_eq_true rfl)⟩ [] rfl rfl (Nat.le_of_ble_eq_true rfl) dX8_bestRound_87 ⟨(Nat.le_of_ble_eq_true rfl), (Nat.le_of_ble_eq_true rfl)⟩ rfl (fun r w1 H locs hQ V => ?_)
              obtain ⟨z_10, rfl, rfl, f_11⟩ := hQ
              have V : gW D T A s [(o, .inr (8, [.int (nI 0), .ref g1, .ref g2, .ref g3, .ref g4, .int (nI tp), .int w6, .int w7, .int w8, .int w9, .int w10, .int w11, .int w12, .int w13, .int w14, .ref g15, .int w16, .ref g17, .int w18, .int w19, .ref g20, .int wv, .ref g22, .ref g23, .ref g24, .int w25, .int w26, .int w27, .ref g28, .ref g29, .int w30, .ref g31, .ref g32, .ref g33])), (g1, .inl (T 0, 282, .inl fa)), (g15, .inl (T 0, 10, .inl ga_)), (g17, .inl (T 0, 94, .inl gb_)), (g20, .inl (T 1, 10, .inr (.inl gc_))), (g22, .inl (T 1, 10, .inr (.inl gd_)))] H locs := V _ [] rfl rfl rfl (by decide +kernel) rfl
              show W p l e _ s m args below meth c H locs _ _ _ (F0 m 90 ls [.int z_10])
              have hbc : z_10 = btS (nI k69) 10 := f_11.trans (bt_12 k69 (by omega))
              refine lv_istore (lv' := [(5, .int z_10), (4, .int (nI k69)), (3, .int x3), (0, .ref o), (1, .int (nI i)), (2, .int wh)]) hx hb dX8_bestRound_90 hl (by decide) rfl (fun ls hl => ?_)
              refine lv_iload_n hx hb dX8_bestRound_92 rfl (lv_at hl 2 rfl) ?_
              refine lv_iconst (v := (-1)) hx hb dX8_bestRound_93 (by decide +kernel) ?_
              refine lv_icmp_eq (tgt := 106) hx hb dX8_bestRound_94 (by decide) (fun c_12 => ?_) (fun c_12 => ?_)
              · skip
                refine lv_iconst (v := (nI 0)) hx hb dX8_bestRound_106 (by decide +kernel) ?_
                refine lv_istore (lv' := [(6, .int (nI 0)), (5, .int z_10), (4, .int (nI k69)), (3, .int x3), (0, .ref o), (1, .int (nI i)), (2, .int wh)]) hx hb dX8_bestRound_107 hl (by decide) rfl (fun ls hl => ?_)
                have L_13 : ∀ (fu : Nat) (k109 : Nat) (ge_ : Nat → Int64), k109 ≤ n → (∀ j, j < k109 → ge_ j = (rdP n i k69 j).toInt64) → n - k109 < fu → ∀ (H : Heap) (locs : List Loc) (ls : Array Slot), gW D T A s [(o, .inr (8, [.int (nI 0), .ref g1, .ref g2, .ref g3, .ref g4, .int (nI tp), .int w6, .int w7, .int w8, .int w9, .int w10, .int w11, .int w12, .int w13, .int w14, .ref g15, .int w16, .ref g17, .int w18, .int w19, .ref g20, .int wv, .ref g22, .ref g23, .ref g24, .int w25, .int w26, .int w27, .ref g28, .ref g29, .int w30, .ref g31, .ref g32, .ref g33])), (g1, .inl (T 0, 282, .inl fa)), (g15, .inl (T 0, 10, .inl ga_)), (g17, .inl (T 0, 94, .inl gb_)), (g20, .inl (T 1, 10, .inr (.inl ge_))), (g22, .inl (T 1, 10, .inr (.inl gd_)))] H locs → lv_has ls 7 [(6, .int (nI k109)), (5, .int z_10), (4, .int (nI k69)), (3, .int x3), (0, .ref o), (1, .int (nI i)), (2, .int wh)] → W p l e (rmD 4 0 0) s m args below meth c H locs 0 0 (MQ below (gQ D A (q_m_bestRound_f T n o le wh w0 g1 g2 g3 g4 tp w6 w7 w8 w9 w10 w11 w12 w13 w14 g15 w16 g17 w18 w19 g20 w21 g22 g23 g24 w25 w26 w27 g28 g29 w30 g31 g32 g33 fa fh fk fr fb)) args s 0 0 A) (F0 m 109 ls []) := by
                  intro fu_109
                  induction fu_109 with
                  | zero => intro k109 ge_ hk109 hge hmu; exact absurd hmu (Nat.not_lt_zero _)
                  | succ fu_109 ih_109 =>
                    intro k109 ge_ hk109 hge hmu_109 H locs ls V hl
                    refine lv_iload hx hb dX8_bestRound_109 (lv_at hl 0 rfl) ?_
                    refine lv_aload_n hx hb dX8_bestRound_111 rfl (lv_at hl 4 rfl) ?_
                    refine g_get hC V (ci := 8) uwX8 0 rfl rfl 1 (by decide) w_913 rfl rfl dX8_bestRound_112 ?_
                    refine lv_iconst (v := (nI 0)) hx hb dX8_bestRound_115 (by decide +kernel) ?_
                    refine g_iald hC V 1 rfl (vp_in_nI (by decide) (by decide)) (v := (nI n)) (by rw [nI_clamp (by decide)]; first | rfl | exact h_a.2.1) dX8_bestRound_116 ?_
                    refine lv_icmp_ge (tgt := 156) hx hb dX8_bestRound_117 (by decide) (fun c_14 => ?_) (fun c_14 => ?_)
                    · skip
                      have c_14 := b_le (by omega) (by omega) c_14
                      refine lv_aload_n hx hb dX8_bestRound_156 rfl (lv_at hl 4 rfl) ?_
                      refine lv_iload_n hx hb dX8_bestRound_157 rfl (lv_at hl 5 rfl) ?_
                      refine g_callVU (nA := 1) hC V hl.1 (m_holdsBy_f l D T (rdP n i k69) n o i (nI 0) g1 g2 g3 g4 tp w6 w7 w8 w9 w10 w11 w12 w13 w14 g15 w16 g17 w18 w19 g20 wv g22 g23 g24 w25 w26 w27 g28 g29 w30 g31 g32 g33 fa ga_ gb_ ge_ h_a ⟨by omega, by omega⟩ h_lb (fun k hk t ht => rj_p (hge k (by omega)) (by omega))) w_1229 w_1231 w_s64 w_9 w_1232 (by decide +kernel) rfl ⟨(Nat.le_of_ble_eq_true rfl), (Nat.le_of_ble_eq_true rfl)⟩ 0 (ci := 8) rfl rfl [0, 1, 2, 3, 4] rfl rfl (Nat.le_of_ble_eq_true rfl) dX8_bestRound_158 ⟨(Nat.le_of_ble_eq_true rfl), (Nat.le_of_ble_eq_true rfl)⟩ rfl (fun r w1 H locs hQ V => ?_)
                      obtain ⟨z_15, wq_16, gh_17, gk_18, rfl, rfl, f_19⟩ := hQ
                      have V : gW D T A s [(o, .inr (8, [.int (nI 0), .ref g1, .ref g2, .ref g3, .ref g4, .int (nI tp), .int w6, .int w7, .int w8, .int w9, .int w10, .int w11, .int w12, .int w13, .int w14, .ref g15, .int w16, .ref g17, .int w18, .int w19, .ref g20, .int wq_16, .ref g22, .ref g23, .ref g24, .int w25, .int w26, .int w27, .ref g28, .ref g29, .int w30, .ref g31, .ref g32, .ref g33])), (g1, .inl (T 0, 282, .inl fa)), (g15, .inl (T 0, 10, .inl gh_17)), (g17, .inl (T 0, 94, .inl gk_18)), (g20, .inl (T 1, 10, .inr (.inl ge_))), (g22, .inl (T 1, 10, .inr (.inl gd_)))] H locs := V _ [0, 0, 0, 0, 0] rfl rfl rfl (by decide +kernel) rfl
                      show W p l e _ s m args below meth c H locs _ _ _ (F0 m 161 ls [.int z_15])
                      refine lv_iconst (v := (-1)) hx hb dX8_bestRound_161 (by decide +kernel) ?_
                      refine lv_icmp_eq (tgt := 168) hx hb dX8_bestRound_162 (by decide) (fun c_20 => ?_) (fun c_20 => ?_)
                      · skip
                        refine lv_iload hx hb dX8_bestRound_168 (lv_at hl 1 rfl) ?_
                        refine lv_istore_n (lv' := [(3, .int z_10), (6, .int (nI k109)), (5, .int z_10), (4, .int (nI k69)), (0, .ref o), (1, .int (nI i)), (2, .int wh)]) hx hb dX8_bestRound_170 rfl hl (by decide) rfl (fun ls hl => ?_)
                        refine lv_iconst (v := (nI 0)) hx hb dX8_bestRound_171 (by decide +kernel) ?_
                        refine lv_istore (lv' := [(6, .int (nI 0)), (3, .int z_10), (5, .int z_10), (4, .int (nI k69)), (0, .ref o), (1, .int (nI i)), (2, .int wh)]) hx hb dX8_bestRound_172 hl (by decide) rfl (fun ls hl => ?_)
                        have L_21 : ∀ (fu : Nat) (k174 : Nat) (gf_ : Nat → Int64), k174 ≤ n → (∀ j, j < k174 → gf_ j = ge_ j) → n - k174 < fu → ∀ (H : Heap) (locs : List Loc) (ls : Array Slot), gW D T A s [(o, .inr (8, [.int (nI 0), .ref g1, .ref g2, .ref g3, .ref g4, .int (nI tp), .int w6, .int w7, .int w8, .int w9, .int w10, .int w11, .int w12, .int w13, .int w14, .ref g15, .int w16, .ref g17, .int w18, .int w19, .ref g20, .int wq_16, .ref g22, .ref g23, .ref g24, .int w25, .int w26, .int w27, .ref g28, .ref g29, .int w30, .ref g31, .ref g32, .ref g33])), (g1, .inl (T 0, 282, .inl fa)), (g15, .inl (T 0, 10, .inl gh_17)), (g17, .inl (T 0, 94, .inl gk_18)), (g20, .inl (T 1, 10, .inr (.inl ge_))), (g22, .inl (T 1, 10, .inr (.inl gf_)))] H locs → lv_has ls 7 [(6, .int (nI k174)), (3, .int z_10), (5, .int z_10), (4, .int (nI k69)), (0, .ref o), (1, .int (nI i)), (2, .int wh)] → W p l e (rmD 4 0 0) s m args below meth c H locs 0 0 (MQ below (gQ D A (q_m_bestRound_f T n o le wh w0 g1 g2 g3 g4 tp w6 w7 w8 w9 w10 w11 w12 w13 w14 g15 w16 g17 w18 w19 g20 w21 g22 g23 g24 w25 w26 w27 g28 g29 w30 g31 g32 g33 fa fh fk fr fb)) args s 0 0 A) (F0 m 174 ls []) := by
                          intro fu_174
                          induction fu_174 with
                          | zero => intro k174 gf_ hk174 hgf hmu; exact absurd hmu (Nat.not_lt_zero _)
                          | succ fu_174 ih_174 =>
                            intro k174 gf_ hk174 hgf hmu_174 H locs ls V hl
                            refine lv_iload hx hb dX8_bestRound_174 (lv_at hl 0 rfl) ?_
                            refine lv_aload_n hx hb dX8_bestRound_176 rfl (lv_at hl 4 rfl) ?_
                            refine g_get hC V (ci := 8) uwX8 0 rfl rfl 1 (by decide) w_913 rfl rfl dX8_bestRound_177 ?_
                            refine lv_iconst (v := (nI 0)) hx hb dX8_bestRound_180 (by decide +kernel) ?_
                            refine g_iald hC V 1 rfl (vp_in_nI (by decide) (by decide)) (v := (nI n)) (by rw [nI_clamp (by decide)]; first | rfl | exact h_a.2.1) dX8_bestRound_181 ?_
                            refine lv_icmp_ge (tgt := 205) hx hb dX8_bestRound_182 (by decide) (fun c_22 => ?_) (fun c_22 => ?_)
                            · skip
                              have c_22 := b_le (by omega) (by omega) c_22
                              refine lv_iinc (v := (nI (k69 + 1))) (lv' := [(4, .int (nI (k69 + 1))), (6, .int (nI k174)), (3, .int z_10), (5, .int z_10), (0, .ref o), (1, .int (nI i)), (2, .int wh)]) hx hb dX8_bestRound_205 hl (k := 3) rfl (nI_1 _) (by decide) rfl (fun ls hl => ?_)
                              refine lv_goto (tgt := 69) hx hb dX8_bestRound_208 (by decide) ?_
                              exact ih_69 (k69 + 1) z_10 wq_16 gh_17 gk_18 ge_ gf_ (by omega) (rj_y hR hbc (Or.inl c_12) (ho_nv f_19 c_20) (fun i hi => (hgf i (by omega)).trans (hge i (by omega)))) (by omega) _ _ _ V (lv_sub hl [0, 2, 4, 5, 6] rfl)
                            · skip
                              have c_22 := b_nle (by omega) (by omega) c_22
                              refine lv_aload_n hx hb dX8_bestRound_185 rfl (lv_at hl 4 rfl) ?_
                              refine g_get hC V (ci := 8) uwX8 0 rfl rfl 22 (by decide) w_934 rfl rfl dX8_bestRound_186 ?_
                              refine lv_iload hx hb dX8_bestRound_189 (lv_at hl 0 rfl) ?_
                              refine lv_aload_n hx hb dX8_bestRound_191 rfl (lv_at hl 4 rfl) ?_
                              refine g_get hC V (ci := 8) uwX8 0 rfl rfl 20 (by decide) w_932 rfl rfl dX8_bestRound_192 ?_
                              refine lv_iload hx hb dX8_bestRound_195 (lv_at hl 0 rfl) ?_
                              refine g_lald hC V 4 rfl (vp_in_nI (by omega) (by omega)) (v := (ge_ k174)) (congrArg _ (nI_clamp (by omega))) dX8_bestRound_197 ?_
                              refine g_last hC V 5 rfl (vp_in_nI (by omega) (by omega)) (f' := (vp_updL gf_ k174 (ge_ k174))) (by rw [nI_clamp (by omega)]) (ws' := [(o, .inr (8, [.int (nI 0), .ref g1, .ref g2, .ref g3, .ref g4, .int (nI tp), .int w6, .int w7, .int w8, .int w9, .int w10, .int w11, .int w12, .int w13, .int w14, .ref g15, .int w16, .ref g17, .int w18, .int w19, .ref g20, .int wq_16, .ref g22, .ref g23, .ref g24, .int w25, .int w26, .int w27, .ref g28, .ref g29, .int w30, .ref g31, .ref g32, .ref g33])), (g1, .inl (T 0, 282, .inl fa)), (g15, .inl (T 0, 10, .inl gh_17)), (g17, .inl (T 0, 94, .inl gk_18)), (g20, .inl (T 1, 10, .inr (.inl ge_))), (g22, .inl (T 1, 10, .inr (.inl (vp_updL gf_ k174 (ge_ k174)))))]) rfl dX8_bestRound_198 (fun H locs V => ?_)
                              refine lv_iinc (v := (nI (k174 + 1))) (lv' := [(6, .int (nI (k174 + 1))), (3, .int z_10), (5, .int z_10), (4, .int (nI k69)), (0, .ref o), (1, .int (nI i)), (2, .int wh)]) hx hb dX8_bestRound_199 hl (k := 0) rfl (nI_1 _) (by decide) rfl (fun ls hl => ?_)
                              refine lv_goto (tgt := 174) hx hb dX8_bestRound_202 (by decide) ?_
                              exact ih_174 (k174 + 1) (vp_updL gf_ k174 (ge_ k174)) (by omega) (upL_one (p := fun j x => x = ge_ j) hgf rfl) (by omega) _ _ _ V (lv_sub hl [0, 1, 2, 3, 4, 5, 6] rfl)
                        exact L_21 _ 0 gd_ (by omega) (fun i h => absurd h (Nat.not_lt_zero _)) (Nat.lt_succ_self _) _ _ _ V (lv_sub hl [0, 1, 2, 3, 4, 5, 6] rfl)
                      · skip
                        refine lv_goto (tgt := 205) hx hb dX8_bestRound_165 (by decide) ?_
                        refine lv_iinc (v := (nI (k69 + 1))) (lv' := [(4, .int (nI (k69 + 1))), (6, .int (nI k109)), (5, .int z_10), (3, .int x3), (0, .ref o), (1, .int (nI i)), (2, .int wh)]) hx hb dX8_bestRound_205 hl (k := 2) rfl (nI_1 _) (by decide) rfl (fun ls hl => ?_)
                        refine lv_goto (tgt := 69) hx hb dX8_bestRound_208 (by decide) ?_
                        exact ih_69 (k69 + 1) x3 wq_16 gh_17 gk_18 ge_ gd_ (by omega) (rz_s2 hR (ho_nn f_19 c_20)) (by omega) _ _ _ V (lv_sub hl [0, 3, 4, 5, 6] rfl)
                    · skip
                      have c_14 := b_nle (by omega) (by omega) c_14
                      refine lv_aload_n hx hb dX8_bestRound_120 rfl (lv_at hl 4 rfl) ?_
                      refine g_get hC V (ci := 8) uwX8 0 rfl rfl 20 (by decide) w_932 rfl rfl dX8_bestRound_121 ?_
                      refine lv_iload hx hb dX8_bestRound_124 (lv_at hl 0 rfl) ?_
                      refine lv_iload hx hb dX8_bestRound_126 (lv_at hl 2 rfl) ?_
                      refine lv_aload_n hx hb dX8_bestRound_128 rfl (lv_at hl 4 rfl) ?_
                      refine g_get hC V (ci := 8) uwX8 0 rfl rfl 1 (by decide) w_913 rfl rfl dX8_bestRound_129 ?_
                      refine lv_iconst (v := (nI 0)) hx hb dX8_bestRound_132 (by decide +kernel) ?_
                      refine g_iald hC V 1 rfl (vp_in_nI (by decide) (by decide)) (v := (nI n)) (by rw [nI_clamp (by decide)]; first | rfl | exact h_a.2.1) dX8_bestRound_133 ?_
                      refine lv_iconst (v := (nI 1)) hx hb dX8_bestRound_134 (by decide +kernel) ?_
                      refine lv_isub hx hb dX8_bestRound_135 ?_
                      refine g_vi (y := (nI (n - 1))) (nI_sub (by omega)) ?_
                      refine lv_iload hx hb dX8_bestRound_136 (lv_at hl 0 rfl) ?_
                      refine lv_isub hx hb dX8_bestRound_138 ?_
                      refine g_vi (y := (nI ((n - 1) - k109))) (nI_sub (by omega)) ?_
                      refine lv_iload_n hx hb dX8_bestRound_139 rfl (lv_at hl 5 rfl) ?_
                      refine lv_imul hx hb dX8_bestRound_140 ?_
                      refine g_vi (y := (nI (((n - 1) - k109) * i))) (pk_mul _ _) ?_
                      refine lv_ishr hx hb dX8_bestRound_141 ?_
                      refine lv_iconst (v := (nI 1)) hx hb dX8_bestRound_142 (by decide +kernel) ?_
                      refine lv_iload_n hx hb dX8_bestRound_143 rfl (lv_at hl 5 rfl) ?_
                      refine lv_ishl hx hb dX8_bestRound_144 ?_
                      refine g_vi (y := (nI (2 ^ i))) (shl_pow (by omega)) ?_
                      refine lv_iconst (v := (nI 1)) hx hb dX8_bestRound_145 (by decide +kernel) ?_
                      refine lv_isub hx hb dX8_bestRound_146 ?_
                      refine g_vi (y := (nI ((2 ^ i) - 1))) (nI_sub (by omega)) ?_
                      refine lv_iand hx hb dX8_bestRound_147 ?_
                      refine lv_i2l (v := (((nI k69) >>> ((nI (((n - 1) - k109) * i)) &&& 31)) &&& (nI ((2 ^ i) - 1))).toInt64) hx hb dX8_bestRound_148 rfl ?_
                      refine g_last hC V 4 rfl (vp_in_nI (by omega) (by omega)) (f' := (vp_updL ge_ k109 ((((nI k69) >>> ((nI (((n - 1) - k109) * i)) &&& 31)) &&& (nI ((2 ^ i) - 1))).toInt64))) (by rw [nI_clamp (by omega)]) (ws' := [(o, .inr (8, [.int (nI 0), .ref g1, .ref g2, .ref g3, .ref g4, .int (nI tp), .int w6, .int w7, .int w8, .int w9, .int w10, .int w11, .int w12, .int w13, .int w14, .ref g15, .int w16, .ref g17, .int w18, .int w19, .ref g20, .int wv, .ref g22, .ref g23, .ref g24, .int w25, .int w26, .int w27, .ref g28, .ref g29, .int w30, .ref g31, .ref g32, .ref g33])), (g1, .inl (T 0, 282, .inl fa)), (g15, .inl (T 0, 10, .inl ga_)), (g17, .inl (T 0, 94, .inl gb_)), (g20, .inl (T 1, 10, .inr (.inl (vp_updL ge_ k109 ((((nI k69) >>> ((nI (((n - 1) - k109) * i)) &&& 31)) &&& (nI ((2 ^ i) - 1))).toInt64))))), (g22, .inl (T 1, 10, .inr (.inl gd_)))]) rfl dX8_bestRound_149 (fun H locs V => ?_)
                      refine lv_iinc (v := (nI (k109 + 1))) (lv' := [(6, .int (nI (k109 + 1))), (5, .int z_10), (4, .int (nI k69)), (3, .int x3), (0, .ref o), (1, .int (nI i)), (2, .int wh)]) hx hb dX8_bestRound_150 hl (k := 0) rfl (nI_1 _) (by decide) rfl (fun ls hl => ?_)
                      refine lv_goto (tgt := 109) hx hb dX8_bestRound_153 (by decide) ?_
                      exact ih_109 (k109 + 1) (vp_updL ge_ k109 ((((nI k69) >>> ((nI (((n - 1) - k109) * i)) &&& 31)) &&& (nI ((2 ^ i) - 1))).toInt64)) (by omega) (upL_one (p := fun j x => x = (rdP n i k69 j).toInt64) hge rfl) (by omega) _ _ _ V (lv_sub hl [0, 1, 2, 3, 4, 5, 6] rfl)
                exact L_13 _ 0 gc_ (by omega) (fun i h => absurd h (Nat.not_lt_zero _)) (Nat.lt_succ_self _) _ _ _ V (lv_sub hl [0, 1, 2, 3, 4, 5, 6] rfl)
              · skip
                refine lv_iload hx hb dX8_bestRound_97 (lv_at hl 0 rfl) ?_
                refine lv_iload_n hx hb dX8_bestRound_99 rfl (lv_at hl 2 rfl) ?_
                refine lv_icmp_lt (tgt := 106) hx hb dX8_bestRound_100 (by decide) (fun c_23 => ?_) (fun c_23 => ?_)
                · skip
                  refine lv_iconst (v := (nI 0)) hx hb dX8_bestRound_106 (by decide +kernel) ?_
                  refine lv_istore (lv' := [(6, .int (nI 0)), (5, .int z_10), (4, .int (nI k69)), (3, .int x3), (0, .ref o), (1, .int (nI i)), (2, .int wh)]) hx hb dX8_bestRound_107 hl (by decide) rfl (fun ls hl => ?_)
                  have L_24 : ∀ (fu : Nat) (k109 : Nat) (ge_ : Nat → Int64), k109 ≤ n → (∀ j, j < k109 → ge_ j = (rdP n i k69 j).toInt64) → n - k109 < fu → ∀ (H : Heap) (locs : List Loc) (ls : Array Slot), gW D T A s [(o, .inr (8, [.int (nI 0), .ref g1, .ref g2, .ref g3, .ref g4, .int (nI tp), .int w6, .int w7, .int w8, .int w9, .int w10, .int w11, .int w12, .int w13, .int w14, .ref g15, .int w16, .ref g17, .int w18, .int w19, .ref g20, .int wv, .ref g22, .ref g23, .ref g24, .int w25, .int w26, .int w27, .ref g28, .ref g29, .int w30, .ref g31, .ref g32, .ref g33])), (g1, .inl (T 0, 282, .inl fa)), (g15, .inl (T 0, 10, .inl ga_)), (g17, .inl (T 0, 94, .inl gb_)), (g20, .inl (T 1, 10, .inr (.inl ge_))), (g22, .inl (T 1, 10, .inr (.inl gd_)))] H locs → lv_has ls 7 [(6, .int (nI k109)), (5, .int z_10), (4, .int (nI k69)), (3, .int x3), (0, .ref o), (1, .int (nI i)), (2, .int wh)] → W p l e (rmD 4 0 0) s m args below meth c H locs 0 0 (MQ below (gQ D A (q_m_bestRound_f T n o le wh w0 g1 g2 g3 g4 tp w6 w7 w8 w9 w10 w11 w12 w13 w14 g15 w16 g17 w18 w19 g20 w21 g22 g23 g24 w25 w26 w27 g28 g29 w30 g31 g32 g33 fa fh fk fr fb)) args s 0 0 A) (F0 m 109 ls []) := by
                    intro fu_109
                    induction fu_109 with
                    | zero => intro k109 ge_ hk109 hge hmu; exact absurd hmu (Nat.not_lt_zero _)
                    | succ fu_109 ih_109 =>
                      intro k109 ge_ hk109 hge hmu_109 H locs ls V hl
                      refine lv_iload hx hb dX8_bestRound_109 (lv_at hl 0 rfl) ?_
                      refine lv_aload_n hx hb dX8_bestRound_111 rfl (lv_at hl 4 rfl) ?_
                      refine g_get hC V (ci := 8) uwX8 0 rfl rfl 1 (by decide) w_913 rfl rfl dX8_bestRound_112 ?_
                      refine lv_iconst (v := (nI 0)) hx hb dX8_bestRound_115 (by decide +kernel) ?_
                      refine g_iald hC V 1 rfl (vp_in_nI (by decide) (by decide)) (v := (nI n)) (by rw [nI_clamp (by decide)]; first | rfl | exact h_a.2.1) dX8_bestRound_116 ?_
                      refine lv_icmp_ge (tgt := 156) hx hb dX8_bestRound_117 (by decide) (fun c_25 => ?_) (fun c_25 => ?_)
                      · skip
                        have c_25 := b_le (by omega) (by omega) c_25
                        refine lv_aload_n hx hb dX8_bestRound_156 rfl (lv_at hl 4 rfl) ?_
                        refine lv_iload_n hx hb dX8_bestRound_157 rfl (lv_at hl 5 rfl) ?_
                        refine g_callVU (nA := 1) hC V hl.1 (m_holdsBy_f l D T (rdP n i k69) n o i (nI 0) g1 g2 g3 g4 tp w6 w7 w8 w9 w10 w11 w12 w13 w14 g15 w16 g17 w18 w19 g20 wv g22 g23 g24 w25 w26 w27 g28 g29 w30 g31 g32 g33 fa ga_ gb_ ge_ h_a ⟨by omega, by omega⟩ h_lb (fun k hk t ht => rj_p (hge k (by omega)) (by omega))) w_1229 w_1231 w_s64 w_9 w_1232 (by decide +kernel) rfl ⟨(Nat.le_of_ble_eq_true rfl), (Nat.le_of_ble_eq_true rfl)⟩ 0 (ci := 8) rfl rfl [0, 1, 2, 3, 4] rfl rfl (Nat.le_of_ble_eq_true rfl) dX8_bestRound_158 ⟨(Nat.le_of_ble_eq_true rfl), (Nat.le_of_ble_eq_true rfl)⟩ rfl (fun r w1 H locs hQ V => ?_)
                        obtain ⟨z_26, wq_27, gh_28, gk_29, rfl, rfl, f_30⟩ := hQ
                        have V : gW D T A s [(o, .inr (8, [.int (nI 0), .ref g1, .ref g2, .ref g3, .ref g4, .int (nI tp), .int w6, .int w7, .int w8, .int w9, .int w10, .int w11, .int w12, .int w13, .int w14, .ref g15, .int w16, .ref g17, .int w18, .int w19, .ref g20, .int wq_27, .ref g22, .ref g23, .ref g24, .int w25, .int w26, .int w27, .ref g28, .ref g29, .int w30, .ref g31, .ref g32, .ref g33])), (g1, .inl (T 0, 282, .inl fa)), (g15, .inl (T 0, 10, .inl gh_28)), (g17, .inl (T 0, 94, .inl gk_29)), (g20, .inl (T 1, 10, .inr (.inl ge_))), (g22, .inl (T 1, 10, .inr (.inl gd_)))] H locs := V _ [0, 0, 0, 0, 0] rfl rfl rfl (by decide +kernel) rfl
                        show W p l e _ s m args below meth c H locs _ _ _ (F0 m 161 ls [.int z_26])
                        refine lv_iconst (v := (-1)) hx hb dX8_bestRound_161 (by decide +kernel) ?_
                        refine lv_icmp_eq (tgt := 168) hx hb dX8_bestRound_162 (by decide) (fun c_31 => ?_) (fun c_31 => ?_)
                        · skip
                          refine lv_iload hx hb dX8_bestRound_168 (lv_at hl 1 rfl) ?_
                          refine lv_istore_n (lv' := [(3, .int z_10), (6, .int (nI k109)), (5, .int z_10), (4, .int (nI k69)), (0, .ref o), (1, .int (nI i)), (2, .int wh)]) hx hb dX8_bestRound_170 rfl hl (by decide) rfl (fun ls hl => ?_)
                          refine lv_iconst (v := (nI 0)) hx hb dX8_bestRound_171 (by decide +kernel) ?_
                          refine lv_istore (lv' := [(6, .int (nI 0)), (3, .int z_10), (5, .int z_10), (4, .int (nI k69)), (0, .ref o), (1, .int (nI i)), (2, .int wh)]) hx hb dX8_bestRound_172 hl (by decide) rfl (fun ls hl => ?_)
                          have L_32 : ∀ (fu : Nat) (k174 : Nat) (gf_ : Nat → Int64), k174 ≤ n → (∀ j, j < k174 → gf_ j = ge_ j) → n - k174 < fu → ∀ (H : Heap) (locs : List Loc) (ls : Array Slot), gW D T A s [(o, .inr (8, [.int (nI 0), .ref g1, .ref g2, .ref g3, .ref g4, .int (nI tp), .int w6, .int w7, .int w8, .int w9, .int w10, .int w11, .int w12, .int w13, .int w14, .ref g15, .int w16, .ref g17, .int w18, .int w19, .ref g20, .int wq_27, .ref g22, .ref g23, .ref g24, .int w25, .int w26, .int w27, .ref g28, .ref g29, .int w30, .ref g31, .ref g32, .ref g33])), (g1, .inl (T 0, 282, .inl fa)), (g15, .inl (T 0, 10, .inl gh_28)), (g17, .inl (T 0, 94, .inl gk_29)), (g20, .inl (T 1, 10, .inr (.inl ge_))), (g22, .inl (T 1, 10, .inr (.inl gf_)))] H locs → lv_has ls 7 [(6, .int (nI k174)), (3, .int z_10), (5, .int z_10), (4, .int (nI k69)), (0, .ref o), (1, .int (nI i)), (2, .int wh)] → W p l e (rmD 4 0 0) s m args below meth c H locs 0 0 (MQ below (gQ D A (q_m_bestRound_f T n o le wh w0 g1 g2 g3 g4 tp w6 w7 w8 w9 w10 w11 w12 w13 w14 g15 w16 g17 w18 w19 g20 w21 g22 g23 g24 w25 w26 w27 g28 g29 w30 g31 g32 g33 fa fh fk fr fb)) args s 0 0 A) (F0 m 174 ls []) := by
                            intro fu_174
                            induction fu_174 with
                            | zero => intro k174 gf_ hk174 hgf hmu; exact absurd hmu (Nat.not_lt_zero _)
                            | succ fu_174 ih_174 =>
                              intro k174 gf_ hk174 hgf hmu_174 H locs ls V hl
                              refine lv_iload hx hb dX8_bestRound_174 (lv_at hl 0 rfl) ?_
                              refine lv_aload_n hx hb dX8_bestRound_176 rfl (lv_at hl 4 rfl) ?_
                              refine g_get hC V (ci := 8) uwX8 0 rfl rfl 1 (by decide) w_913 rfl rfl dX8_bestRound_177 ?_
                              refine lv_iconst (v := (nI 0)) hx hb dX8_bestRound_180 (by decide +kernel) ?_
                              refine g_iald hC V 1 rfl (vp_in_nI (by decide) (by decide)) (v := (nI n)) (by rw [nI_clamp (by decide)]; first | rfl | exact h_a.2.1) dX8_bestRound_181 ?_
                              refine lv_icmp_ge (tgt := 205) hx hb dX8_bestRound_182 (by decide) (fun c_33 => ?_) (fun c_33 => ?_)
                              · skip
                                have c_33 := b_le (by omega) (by omega) c_33
                                refine lv_iinc (v := (nI (k69 + 1))) (lv' := [(4, .int (nI (k69 + 1))), (6, .int (nI k174)), (3, .int z_10), (5, .int z_10), (0, .ref o), (1, .int (nI i)), (2, .int wh)]) hx hb dX8_bestRound_205 hl (k := 3) rfl (nI_1 _) (by decide) rfl (fun ls hl => ?_)
                                refine lv_goto (tgt := 69) hx hb dX8_bestRound_208 (by decide) ?_
                                exact ih_69 (k69 + 1) z_10 wq_27 gh_28 gk_29 ge_ gf_ (by omega) (rj_y hR hbc (Or.inr c_23) (ho_nv f_30 c_31) (fun i hi => (hgf i (by omega)).trans (hge i (by omega)))) (by omega) _ _ _ V (lv_sub hl [0, 2, 4, 5, 6] rfl)
                              · skip
                                have c_33 := b_nle (by omega) (by omega) c_33
                                refine lv_aload_n hx hb dX8_bestRound_185 rfl (lv_at hl 4 rfl) ?_
                                refine g_get hC V (ci := 8) uwX8 0 rfl rfl 22 (by decide) w_934 rfl rfl dX8_bestRound_186 ?_
                                refine lv_iload hx hb dX8_bestRound_189 (lv_at hl 0 rfl) ?_
                                refine lv_aload_n hx hb dX8_bestRound_191 rfl (lv_at hl 4 rfl) ?_
                                refine g_get hC V (ci := 8) uwX8 0 rfl rfl 20 (by decide) w_932 rfl rfl dX8_bestRound_192 ?_
                                refine lv_iload hx hb dX8_bestRound_195 (lv_at hl 0 rfl) ?_
                                refine g_lald hC V 4 rfl (vp_in_nI (by omega) (by omega)) (v := (ge_ k174)) (congrArg _ (nI_clamp (by omega))) dX8_bestRound_197 ?_
                                refine g_last hC V 5 rfl (vp_in_nI (by omega) (by omega)) (f' := (vp_updL gf_ k174 (ge_ k174))) (by rw [nI_clamp (by omega)]) (ws' := [(o, .inr (8, [.int (nI 0), .ref g1, .ref g2, .ref g3, .ref g4, .int (nI tp), .int w6, .int w7, .int w8, .int w9, .int w10, .int w11, .int w12, .int w13, .int w14, .ref g15, .int w16, .ref g17, .int w18, .int w19, .ref g20, .int wq_27, .ref g22, .ref g23, .ref g24, .int w25, .int w26, .int w27, .ref g28, .ref g29, .int w30, .ref g31, .ref g32, .ref g33])), (g1, .inl (T 0, 282, .inl fa)), (g15, .inl (T 0, 10, .inl gh_28)), (g17, .inl (T 0, 94, .inl gk_29)), (g20, .inl (T 1, 10, .inr (.inl ge_))), (g22, .inl (T 1, 10, .inr (.inl (vp_updL gf_ k174 (ge_ k174)))))]) rfl dX8_bestRound_198 (fun H locs V => ?_)
                                refine lv_iinc (v := (nI (k174 + 1))) (lv' := [(6, .int (nI (k174 + 1))), (3, .int z_10), (5, .int z_10), (4, .int (nI k69)), (0, .ref o), (1, .int (nI i)), (2, .int wh)]) hx hb dX8_bestRound_199 hl (k := 0) rfl (nI_1 _) (by decide) rfl (fun ls hl => ?_)
                                refine lv_goto (tgt := 174) hx hb dX8_bestRound_202 (by decide) ?_
                                exact ih_174 (k174 + 1) (vp_updL gf_ k174 (ge_ k174)) (by omega) (upL_one (p := fun j x => x = ge_ j) hgf rfl) (by omega) _ _ _ V (lv_sub hl [0, 1, 2, 3, 4, 5, 6] rfl)
                          exact L_32 _ 0 gd_ (by omega) (fun i h => absurd h (Nat.not_lt_zero _)) (Nat.lt_succ_self _) _ _ _ V (lv_sub hl [0, 1, 2, 3, 4, 5, 6] rfl)
                        · skip
                          refine lv_goto (tgt := 205) hx hb dX8_bestRound_165 (by decide) ?_
                          refine lv_iinc (v := (nI (k69 + 1))) (lv' := [(4, .int (nI (k69 + 1))), (6, .int (nI k109)), (5, .int z_10), (3, .int x3), (0, .ref o), (1, .int (nI i)), (2, .int wh)]) hx hb dX8_bestRound_205 hl (k := 2) rfl (nI_1 _) (by decide) rfl (fun ls hl => ?_)
                          refine lv_goto (tgt := 69) hx hb dX8_bestRound_208 (by decide) ?_
                          exact ih_69 (k69 + 1) x3 wq_27 gh_28 gk_29 ge_ gd_ (by omega) (rz_s2 hR (ho_nn f_30 c_31)) (by omega) _ _ _ V (lv_sub hl [0, 3, 4, 5, 6] rfl)
                      · skip
                        have c_25 := b_nle (by omega) (by omega) c_25
                        refine lv_aload_n hx hb dX8_bestRound_120 rfl (lv_at hl 4 rfl) ?_
                        refine g_get hC V (ci := 8) uwX8 0 rfl rfl 20 (by decide) w_932 rfl rfl dX8_bestRound_121 ?_
                        refine lv_iload hx hb dX8_bestRound_124 (lv_at hl 0 rfl) ?_
                        refine lv_iload hx hb dX8_bestRound_126 (lv_at hl 2 rfl) ?_
                        refine lv_aload_n hx hb dX8_bestRound_128 rfl (lv_at hl 4 rfl) ?_
                        refine g_get hC V (ci := 8) uwX8 0 rfl rfl 1 (by decide) w_913 rfl rfl dX8_bestRound_129 ?_
                        refine lv_iconst (v := (nI 0)) hx hb dX8_bestRound_132 (by decide +kernel) ?_
                        refine g_iald hC V 1 rfl (vp_in_nI (by decide) (by decide)) (v := (nI n)) (by rw [nI_clamp (by decide)]; first | rfl | exact h_a.2.1) dX8_bestRound_133 ?_
                        refine lv_iconst (v := (nI 1)) hx hb dX8_bestRound_134 (by decide +kernel) ?_
                        refine lv_isub hx hb dX8_bestRound_135 ?_
                        refine g_vi (y := (nI (n - 1))) (nI_sub (by omega)) ?_
                        refine lv_iload hx hb dX8_bestRound_136 (lv_at hl 0 rfl) ?_
                        refine lv_isub hx hb dX8_bestRound_138 ?_
                        refine g_vi (y := (nI ((n - 1) - k109))) (nI_sub (by omega)) ?_
                        refine lv_iload_n hx hb dX8_bestRound_139 rfl (lv_at hl 5 rfl) ?_
                        refine lv_imul hx hb dX8_bestRound_140 ?_
                        refine g_vi (y := (nI (((n - 1) - k109) * i))) (pk_mul _ _) ?_
                        refine lv_ishr hx hb dX8_bestRound_141 ?_
                        refine lv_iconst (v := (nI 1)) hx hb dX8_bestRound_142 (by decide +kernel) ?_
                        refine lv_iload_n hx hb dX8_bestRound_143 rfl (lv_at hl 5 rfl) ?_
                        refine lv_ishl hx hb dX8_bestRound_144 ?_
                        refine g_vi (y := (nI (2 ^ i))) (shl_pow (by omega)) ?_
                        refine lv_iconst (v := (nI 1)) hx hb dX8_bestRound_145 (by decide +kernel) ?_
                        refine lv_isub hx hb dX8_bestRound_146 ?_
                        refine g_vi (y := (nI ((2 ^ i) - 1))) (nI_sub (by omega)) ?_
                        refine lv_iand hx hb dX8_bestRound_147 ?_
                        refine lv_i2l (v := (((nI k69) >>> ((nI (((n - 1) - k109) * i)) &&& 31)) &&& (nI ((2 ^ i) - 1))).toInt64) hx hb dX8_bestRound_148 rfl ?_
                        refine g_last hC V 4 rfl (vp_in_nI (by omega) (by omega)) (f' := (vp_updL ge_ k109 ((((nI k69) >>> ((nI (((n - 1) - k109) * i)) &&& 31)) &&& (nI ((2 ^ i) - 1))).toInt64))) (by rw [nI_clamp (by omega)]) (ws' := [(o, .inr (8, [.int (nI 0), .ref g1, .ref g2, .ref g3, .ref g4, .int (nI tp), .int w6, .int w7, .int w8, .int w9, .int w10, .int w11, .int w12, .int w13, .int w14, .ref g15, .int w16, .ref g17, .int w18, .int w19, .ref g20, .int wv, .ref g22, .ref g23, .ref g24, .int w25, .int w26, .int w27, .ref g28, .ref g29, .int w30, .ref g31, .ref g32, .ref g33])), (g1, .inl (T 0, 282, .inl fa)), (g15, .inl (T 0, 10, .inl ga_)), (g17, .inl (T 0, 94, .inl gb_)), (g20, .inl (T 1, 10, .inr (.inl (vp_updL ge_ k109 ((((nI k69) >>> ((nI (((n - 1) - k109) * i)) &&& 31)) &&& (nI ((2 ^ i) - 1))).toInt64))))), (g22, .inl (T 1, 10, .inr (.inl gd_)))]) rfl dX8_bestRound_149 (fun H locs V => ?_)
                        refine lv_iinc (v := (nI (k109 + 1))) (lv' := [(6, .int (nI (k109 + 1))), (5, .int z_10), (4, .int (nI k69)), (3, .int x3), (0, .ref o), (1, .int (nI i)), (2, .int wh)]) hx hb dX8_bestRound_150 hl (k := 0) rfl (nI_1 _) (by decide) rfl (fun ls hl => ?_)
                        refine lv_goto (tgt := 109) hx hb dX8_bestRound_153 (by decide) ?_
                        exact ih_109 (k109 + 1) (vp_updL ge_ k109 ((((nI k69) >>> ((nI (((n - 1) - k109) * i)) &&& 31)) &&& (nI ((2 ^ i) - 1))).toInt64)) (by omega) (upL_one (p := fun j x => x = (rdP n i k69 j).toInt64) hge rfl) (by omega) _ _ _ V (lv_sub hl [0, 1, 2, 3, 4, 5, 6] rfl)
                  exact L_24 _ 0 gc_ (by omega) (fun i h => absurd h (Nat.not_lt_zero _)) (Nat.lt_succ_self _) _ _ _ V (lv_sub hl [0, 1, 2, 3, 4, 5, 6] rfl)
                · skip
                  refine lv_goto (tgt := 205) hx hb dX8_bestRound_103 (by decide) ?_
                  refine lv_iinc (v := (nI (k69 + 1))) (lv' := [(4, .int (nI (k69 + 1))), (5, .int z_10), (3, .int x3), (0, .ref o), (1, .int (nI i)), (2, .int wh)]) hx hb dX8_bestRound_205 hl (k := 1) rfl (nI_1 _) (by decide) rfl (fun ls hl => ?_)
                  refine lv_goto (tgt := 69) hx hb dX8_bestRound_208 (by decide) ?_
                  exact ih_69 (k69 + 1) x3 wv ga_ gb_ gc_ gd_ (by omega) (rz_s1 hR hbc c_12 c_23) (by omega) _ _ _ V (lv_sub hl [0, 2, 3, 4, 5] rfl)
        exact L_6 _ 0 (-1) w21 fh fk fr fb (by omega) rj_0 (Nat.lt_succ_self _) _ _ _ V (lv_sub hl [0, 1, 2, 3, 4] rfl)
      · skip
        have c_5 := b_nle (by omega) (by omega) c_5
        refine lv_bipush (v := (-4)) hx hb dX8_bestRound_61 (by decide +kernel) ?_
        exact g_iret (Qr := (q_m_bestRound_f T n o le wh w0 g1 g2 g3 g4 tp w6 w7 w8 w9 w10 w11 w12 w13 w14 g15 w16 g17 w18 w19 g20 w21 g22 g23 g24 w25 w26 w27 g28 g29 w30 g31 g32 g33 fa fh fk fr fb)) hC V ⟨(Nat.le_of_ble_eq_true rfl), (Nat.le_of_ble_eq_true rfl)⟩ ⟨(-4), w21, fh, fk, fr, fb, rfl, rfl, (br_4 (fun q => q.1 c_1) f_2 f_3 ei (by omega) (by omega))⟩ dX8_bestRound_63
    · have V : gW D T A s [(o, .inr (8, [.int (nI 0), .ref g1, .ref g2, .ref g3, .ref g4, .int (nI tp), .int w6, .int w7, .int w8, .int w9, .int w10, .int w11, .int w12, .int w13, .int w14, .ref g15, .int w16, .ref g17, .int w18, .int w19, .ref g20, .int w21, .ref g22, .ref g23, .ref g24, .int w25, .int w26, .int w27, .ref g28, .ref g29, .int w30, .ref g31, .ref g32, .ref g33])), (g1, .inl (T 0, 282, .inl fa)), (g15, .inl (T 0, 10, .inl fh)), (g17, .inl (T 0, 94, .inl fk)), (g20, .inl (T 1, 10, .inr (.inl fr))), (g22, .inl (T 1, 10, .inr (.inl fb)))] H locs := V _ [] rfl rfl rfl (by decide +kernel) rfl
      show W p l e _ s m args below meth c H locs _ _ _ (F0 m 42 ls [.int (nI 0)])
      refine lv_if_ne (tgt := 48) hx hb dX8_bestRound_42 (by decide) (fun c => absurd (show (nI 0) = 0 by decide +kernel) c) (fun _ => ?_)
      refine lv_bipush (v := (-3)) hx hb dX8_bestRound_45 (by decide +kernel) ?_
      exact g_iret (Qr := (q_m_bestRound_f T n o le wh w0 g1 g2 g3 g4 tp w6 w7 w8 w9 w10 w11 w12 w13 w14 g15 w16 g17 w18 w19 g20 w21 g22 g23 g24 w25 w26 w27 g28 g29 w30 g31 g32 g33 fa fh fk fr fb)) hC V ⟨(Nat.le_of_ble_eq_true rfl), (Nat.le_of_ble_eq_true rfl)⟩ ⟨(-3), w21, fh, fk, fr, fb, rfl, rfl, (br_3 (fun q => q.1 c_1) f_4)⟩ dX8_bestRound_47
  · skip
    refine lv_iload_n hx hb dX8_bestRound_9 rfl (lv_at hl 2 rfl) ?_
    refine lv_i2l (v := wh.toInt64) hx hb dX8_bestRound_10 rfl ?_
    refine lv_ldc2 (v := (10)) hx hb hown (hts _ w_1257) dX8_bestRound_11 ?_
    refine g_vl (y := (nI 10).toInt64) (by decide +kernel) ?_
    refine lv_bipush (v := (nI 9)) hx hb dX8_bestRound_14 (by decide +kernel) ?_
    refine lv_aload_n hx hb dX8_bestRound_16 rfl (lv_at hl 0 rfl) ?_
    refine g_get hC V (ci := 8) uwX8 0 rfl rfl 1 (by decide) w_913 rfl rfl dX8_bestRound_17 ?_
    refine lv_iconst (v := (nI 0)) hx hb dX8_bestRound_20 (by decide +kernel) ?_
    refine g_iald hC V 1 rfl (vp_in_nI (by decide) (by decide)) (v := (nI n)) (by rw [nI_clamp (by decide)]; first | rfl | exact h_a.2.1) dX8_bestRound_21 ?_
    refine lv_iadd hx hb dX8_bestRound_22 ?_
    refine g_vi (y := (nI (9 + n))) (nI_add _ _) ?_
    refine lv_i2l (v := (nI (9 + n)).toInt64) hx hb dX8_bestRound_23 rfl ?_
    refine g_callSU (nA := 3) hC V hl.1 (m_within l D T wh (nI 10) (nI (9 + n))) w_1023 w_1024 w_9 w_1025 (by decide +kernel) rfl ⟨(Nat.le_of_ble_eq_true rfl), (Nat.le_of_ble_eq_true rfl)⟩ [] rfl rfl (Nat.le_of_ble_eq_true rfl) dX8_bestRound_24 ⟨(Nat.le_of_ble_eq_true rfl), (Nat.le_of_ble_eq_true rfl)⟩ rfl (fun r w1 H locs hQ V => ?_)
    rcases hQ with ⟨rfl, rfl, f_34, f_35⟩ | ⟨rfl, rfl, f_36⟩
    · have V : gW D T A s [(o, .inr (8, [.int (nI 0), .ref g1, .ref g2, .ref g3, .ref g4, .int (nI tp), .int w6, .int w7, .int w8, .int w9, .int w10, .int w11, .int w12, .int w13, .int w14, .ref g15, .int w16, .ref g17, .int w18, .int w19, .ref g20, .int w21, .ref g22, .ref g23, .ref g24, .int w25, .int w26, .int w27, .ref g28, .ref g29, .int w30, .ref g31, .ref g32, .ref g33])), (g1, .inl (T 0, 282, .inl fa)), (g15, .inl (T 0, 10, .inl fh)), (g17, .inl (T 0, 94, .inl fk)), (g20, .inl (T 1, 10, .inr (.inl fr))), (g22, .inl (T 1, 10, .inr (.inl fb)))] H locs := V _ [] rfl rfl rfl (by decide +kernel) rfl
      show W p l e _ s m args below meth c H locs _ _ _ (F0 m 27 ls [.int (nI 1)])
      obtain ⟨jw_37, hjw_37, ejw_37⟩ := w_ten hn10 f_34 f_35
      refine lv_if_ne (tgt := 33) hx hb dX8_bestRound_27 (by decide) (fun _ => ?_) (fun c => absurd (show (nI 1) = 0 from c) (by decide +kernel))
      refine lv_iload_n hx hb dX8_bestRound_33 rfl (lv_at hl 1 rfl) ?_
      refine lv_i2l (v := le.toInt64) hx hb dX8_bestRound_34 rfl ?_
      refine lv_lconst (v := (nI 1).toInt64) hx hb dX8_bestRound_35 (by decide +kernel) ?_
      refine lv_ldc2 (v := (10)) hx hb hown (hts _ w_1257) dX8_bestRound_36 ?_
      refine g_vl (y := (nI 10).toInt64) (by decide +kernel) ?_
      refine g_callSU (nA := 3) hC V hl.1 (m_within l D T le (nI 1) (nI 10)) w_1023 w_1024 w_9 w_1025 (by decide +kernel) rfl ⟨(Nat.le_of_ble_eq_true rfl), (Nat.le_of_ble_eq_true rfl)⟩ [] rfl rfl (Nat.le_of_ble_eq_true rfl) dX8_bestRound_39 ⟨(Nat.le_of_ble_eq_true rfl), (Nat.le_of_ble_eq_true rfl)⟩ rfl (fun r w1 H locs hQ V => ?_)
      rcases hQ with ⟨rfl, rfl, f_38, f_39⟩ | ⟨rfl, rfl, f_40⟩
      · have V : gW D T A s [(o, .inr (8, [.int (nI 0), .ref g1, .ref g2, .ref g3, .ref g4, .int (nI tp), .int w6, .int w7, .int w8, .int w9, .int w10, .int w11, .int w12, .int w13, .int w14, .ref g15, .int w16, .ref g17, .int w18, .int w19, .ref g20, .int w21, .ref g22, .ref g23, .ref g24, .int w25, .int w26, .int w27, .ref g28, .ref g29, .int w30, .ref g31, .ref g32, .ref g33])), (g1, .inl (T 0, 282, .inl fa)), (g15, .inl (T 0, 10, .inl fh)), (g17, .inl (T 0, 94, .inl fk)), (g20, .inl (T 1, 10, .inr (.inl fr))), (g22, .inl (T 1, 10, .inr (.inl fb)))] H locs := V _ [] rfl rfl rfl (by decide +kernel) rfl
        show W p l e _ s m args below meth c H locs _ _ _ (F0 m 42 ls [.int (nI 1)])
        obtain ⟨i, hi1, hi2, ei⟩ := g_rng (by first | decide | omega) (by first | decide | omega) f_38 f_39
        rw [ei] at hl
        have hmul : n * i ≤ 10 * 10 := Nat.mul_le_mul hn10 (by omega)
        have h2i : 1 ≤ 2 ^ i := Nat.one_le_two_pow
        refine lv_if_ne (tgt := 48) hx hb dX8_bestRound_42 (by decide) (fun _ => ?_) (fun c => absurd (show (nI 1) = 0 from c) (by decide +kernel))
        refine lv_aload_n hx hb dX8_bestRound_48 rfl (lv_at hl 0 rfl) ?_
        refine g_get hC V (ci := 8) uwX8 0 rfl rfl 1 (by decide) w_913 rfl rfl dX8_bestRound_49 ?_
        refine lv_iconst (v := (nI 0)) hx hb dX8_bestRound_52 (by decide +kernel) ?_
        refine g_iald hC V 1 rfl (vp_in_nI (by decide) (by decide)) (v := (nI n)) (by rw [nI_clamp (by decide)]; first | rfl | exact h_a.2.1) dX8_bestRound_53 ?_
        refine lv_iload_n hx hb dX8_bestRound_54 rfl (lv_at hl 1 rfl) ?_
        refine lv_imul hx hb dX8_bestRound_55 ?_
        refine g_vi (y := (nI (n * i))) (pk_mul _ _) ?_
        refine lv_bipush (v := (nI 10)) hx hb dX8_bestRound_56 (by decide +kernel) ?_
        refine lv_icmp_le (tgt := 64) hx hb dX8_bestRound_58 (by decide) (fun c_41 => ?_) (fun c_41 => ?_)
        · skip
          have c_41 := b_le (by omega) (by omega) c_41
          have hpw := pw10 c_41
          refine lv_iconst (v := (-1)) hx hb dX8_bestRound_64 (by decide +kernel) ?_
          refine lv_istore_n (lv' := [(3, .int (-1)), (0, .ref o), (1, .int (nI i)), (2, .int wh)]) hx hb dX8_bestRound_65 rfl hl (by decide) rfl (fun ls hl => ?_)
          refine lv_iconst (v := (nI 0)) hx hb dX8_bestRound_66 (by decide +kernel) ?_
          refine lv_istore (lv' := [(4, .int (nI 0)), (3, .int (-1)), (0, .ref o), (1, .int (nI i)), (2, .int wh)]) hx hb dX8_bestRound_67 hl (by decide) rfl (fun ls hl => ?_)
          have L_42 : ∀ (fu : Nat) (k69 : Nat) (x3 : Int32) (wv : Int32) (ga_ : Nat → Int32) (gb_ : Nat → Int32) (gc_ : Nat → Int64) (gd_ : Nat → Int64), k69 ≤ 2 ^ (n * i) → RBJ n fa i k69 x3 gd_ → 2 ^ (n * i) - k69 < fu → ∀ (H : Heap) (locs : List Loc) (ls : Array Slot), gW D T A s [(o, .inr (8, [.int (nI 0), .ref g1, .ref g2, .ref g3, .ref g4, .int (nI tp), .int w6, .int w7, .int w8, .int w9, .int w10, .int w11, .int w12, .int w13, .int w14, .ref g15, .int w16, .ref g17, .int w18, .int w19, .ref g20, .int wv, .ref g22, .ref g23, .ref g24, .int w25, .int w26, .int w27, .ref g28, .ref g29, .int w30, .ref g31, .ref g32, .ref g33])), (g1, .inl (T 0, 282, .inl fa)), (g15, .inl (T 0, 10, .inl ga_)), (g17, .inl (T 0, 94, .inl gb_)), (g20, .inl (T 1, 10, .inr (.inl gc_))), (g22, .inl (T 1, 10, .inr (.inl gd_)))] H locs → lv_has ls 7 [(4, .int (nI k69)), (3, .int x3), (0, .ref o), (1, .int (nI i)), (2, .int wh)] → W p l e (rmD 4 0 0) s m args below meth c H locs 0 0 (MQ below (gQ D A (q_m_bestRound_f T n o le wh w0 g1 g2 g3 g4 tp w6 w7 w8 w9 w10 w11 w12 w13 w14 g15 w16 g17 w18 w19 g20 w21 g22 g23 g24 w25 w26 w27 g28 g29 w30 g31 g32 g33 fa fh fk fr fb)) args s 0 0 A) (F0 m 69 ls []) := by
            intro fu_69
            induction fu_69 with
            | zero => intro k69 x3 wv ga_ gb_ gc_ gd_ hk69 hR hmu; exact absurd hmu (Nat.not_lt_zero _)
            | succ fu_69 ih_69 =>
              intro k69 x3 wv ga_ gb_ gc_ gd_ hk69 hR hmu_69 H locs ls V hl
              refine lv_iload hx hb dX8_bestRound_69 (lv_at hl 0 rfl) ?_
              refine lv_iconst (v := (nI 1)) hx hb dX8_bestRound_71 (by decide +kernel) ?_
              refine lv_aload_n hx hb dX8_bestRound_72 rfl (lv_at hl 2 rfl) ?_
              refine g_get hC V (ci := 8) uwX8 0 rfl rfl 1 (by decide) w_913 rfl rfl dX8_bestRound_73 ?_
              refine lv_iconst (v := (nI 0)) hx hb dX8_bestRound_76 (by decide +kernel) ?_
              refine g_iald hC V 1 rfl (vp_in_nI (by decide) (by decide)) (v := (nI n)) (by rw [nI_clamp (by decide)]; first | rfl | exact h_a.2.1) dX8_bestRound_77 ?_
              refine lv_iload_n hx hb dX8_bestRound_78 rfl (lv_at hl 3 rfl) ?_
              refine lv_imul hx hb dX8_bestRound_79 ?_
              refine g_vi (y := (nI (n * i))) (pk_mul _ _) ?_
              refine lv_ishl hx hb dX8_bestRound_80 ?_
              refine g_vi (y := (nI (2 ^ (n * i)))) (shl_pow (by omega)) ?_
              refine lv_icmp_ge (tgt := 211) hx hb dX8_bestRound_81 (by decide) (fun c_43 => ?_) (fun c_43 => ?_)
              · skip
                have c_43 := b_le (by omega) (by omega) c_43
                refine lv_iload_n hx hb dX8_bestRound_211 rfl (lv_at hl 1 rfl) ?_
                refine lv_iconst (v := (-1)) hx hb dX8_bestRound_212 (by decide +kernel) ?_
                refine lv_icmp_eq (tgt := 220) hx hb dX8_bestRound_213 (by decide) (fun c_44 => ?_) (fun c_44 => ?_)
                · skip
                  refine lv_iload_n hx hb dX8_bestRound_220 rfl (lv_at hl 1 rfl) ?_
                  refine lv_goto (tgt := 234) hx hb dX8_bestRound_221 (by decide) ?_
                  exact g_iret (Qr := (q_m_bestRound_f T n o le wh w0 g1 g2 g3 g4 tp w6 w7 w8 w9 w10 w11 w12 w13 w14 g15 w16 g17 w18 w19 g20 w21 g22 g23 g24 w25 w26 w27 g28 g29 w30 g31 g32 g33 fa fh fk fr fb)) hC V ⟨(Nat.le_of_ble_eq_true rfl), (Nat.le_of_ble_eq_true rfl)⟩ ⟨x3, wv, ga_, gb_, gc_, gd_, rfl, rfl, (br_p (fun q => q.2 (sw_y hjw_37 ejw_37)) f_38 f_39 ei (by omega) (by omega) (rz_f1 hR (by omega)) (Or.inr c_44))⟩ dX8_bestRound_234
                · skip
                  refine lv_iload_n hx hb dX8_bestRound_216 rfl (lv_at hl 4 rfl) ?_
                  refine lv_if_ne (tgt := 224) hx hb dX8_bestRound_217 (by decide) (fun c_45 => ?_) (fun c_45 => ?_)
                  · skip
                    refine lv_aload_n hx hb dX8_bestRound_224 rfl (lv_at hl 2 rfl) ?_
                    refine g_get hC V (ci := 8) uwX8 0 rfl rfl 22 (by decide) w_934 rfl rfl dX8_bestRound_225 ?_
                    refine lv_iload_n hx hb dX8_bestRound_228 rfl (lv_at hl 4 rfl) ?_
                    refine lv_bipush (v := (nI 10)) hx hb dX8_bestRound_229 (by decide +kernel) ?_
                    refine lv_isub hx hb dX8_bestRound_231 ?_
                    refine g_vi (y := nI jw_37) ejw_37 ?_
                    refine g_lald hC V 5 rfl (vp_in_nI (by omega) (by omega)) (v := (gd_ jw_37)) (congrArg _ (nI_clamp (by omega))) dX8_bestRound_232 ?_
                    refine lv_l2i hx hb dX8_bestRound_233 rfl ?_
                    exact g_iret (Qr := (q_m_bestRound_f T n o le wh w0 g1 g2 g3 g4 tp w6 w7 w8 w9 w10 w11 w12 w13 w14 g15 w16 g17 w18 w19 g20 w21 g22 g23 g24 w25 w26 w27 g28 g29 w30 g31 g32 g33 fa fh fk fr fb)) hC V ⟨(Nat.le_of_ble_eq_true rfl), (Nat.le_of_ble_eq_true rfl)⟩ ⟨((gd_ jw_37).toInt32), wv, ga_, gb_, gc_, gd_, rfl, rfl, (br_b (fun q => q.2 (sw_y hjw_37 ejw_37)) f_38 f_39 ei (by omega) (by omega) (rz_f1 hR (by omega)) c_45 c_44 ejw_37 (by omega) ((rz_f2 hR (by omega)) c_44 jw_37 hjw_37))⟩ dX8_bestRound_234
                  · skip
                    refine lv_iload_n hx hb dX8_bestRound_220 rfl (lv_at hl 1 rfl) ?_
                    refine lv_goto (tgt := 234) hx hb dX8_bestRound_221 (by decide) ?_
                    exact g_iret (Qr := (q_m_bestRound_f T n o le wh w0 g1 g2 g3 g4 tp w6 w7 w8 w9 w10 w11 w12 w13 w14 g15 w16 g17 w18 w19 g20 w21 g22 g23 g24 w25 w26 w27 g28 g29 w30 g31 g32 g33 fa fh fk fr fb)) hC V ⟨(Nat.le_of_ble_eq_true rfl), (Nat.le_of_ble_eq_true rfl)⟩ ⟨x3, wv, ga_, gb_, gc_, gd_, rfl, rfl, (br_p (fun q => q.2 (sw_y hjw_37 ejw_37)) f_38 f_39 ei (by omega) (by omega) (rz_f1 hR (by omega)) (Or.inl c_45))⟩ dX8_bestRound_234
              · skip
                have c_43 := b_nle (by omega) (by omega) c_43
                refine lv_iload hx hb dX8_bestRound_84 (lv_at hl 0 rfl) ?_
                refine lv_i2l (v := (nI k69).toInt64) hx hb dX8_bestRound_86 rfl ?_
                refine g_callSU (nA := 1) hC V hl.1 (m_bitsOf_f l D T (nI k69)) w_1258 w_1259 w_9 w_1260 (by decide +kernel) rfl ⟨(Nat.le_of_ble_eq_true rfl), (Nat.le_of_ble_eq_true rfl)⟩ [] rfl rfl (Nat.le_of_ble_eq_true rfl) dX8_bestRound_87 ⟨(Nat.le_of_ble_eq_true rfl), (Nat.le_of_ble_eq_true rfl)⟩ rfl (fun r w1 H locs hQ V => ?_)
                obtain ⟨z_46, rfl, rfl, f_47⟩ := hQ
                have V : gW D T A s [(o, .inr (8, [.int (nI 0), .ref g1, .ref g2, .ref g3, .ref g4, .int (nI tp), .int w6, .int w7, .int w8, .int w9, .int w10, .int w11, .int w12, .int w13, .int w14, .ref g15, .int w16, .ref g17, .int w18, .int w19, .ref g20, .int wv, .ref g22, .ref g23, .ref g24, .int w25, .int w26, .int w27, .ref g28, .ref g29, .int w30, .ref g31, .ref g32, .ref g33])), (g1, .inl (T 0, 282, .inl fa)), (g15, .inl (T 0, 10, .inl ga_)), (g17, .inl (T 0, 94, .inl gb_)), (g20, .inl (T 1, 10, .inr (.inl gc_))), (g22, .inl (T 1, 10, .inr (.inl gd_)))] H locs := V _ [] rfl rfl rfl (by decide +kernel) rfl
                show W p l e _ s m args below meth c H locs _ _ _ (F0 m 90 ls [.int z_46])
                have hbc : z_46 = btS (nI k69) 10 := f_47.trans (bt_12 k69 (by omega))
                refine lv_istore (lv' := [(5, .int z_46), (4, .int (nI k69)), (3, .int x3), (0, .ref o), (1, .int (nI i)), (2, .int wh)]) hx hb dX8_bestRound_90 hl (by decide) rfl (fun ls hl => ?_)
                refine lv_iload_n hx hb dX8_bestRound_92 rfl (lv_at hl 2 rfl) ?_
                refine lv_iconst (v := (-1)) hx hb dX8_bestRound_93 (by decide +kernel) ?_
                refine lv_icmp_eq (tgt := 106) hx hb dX8_bestRound_94 (by decide) (fun c_48 => ?_) (fun c_48 => ?_)
                · skip
                  refine lv_iconst (v := (nI 0)) hx hb dX8_bestRound_106 (by decide +kernel) ?_
                  refine lv_istore (lv' := [(6, .int (nI 0)), (5, .int z_46), (4, .int (nI k69)), (3, .int x3), (0, .ref o), (1, .int (nI i)), (2, .int wh)]) hx hb dX8_bestRound_107 hl (by decide) rfl (fun ls hl => ?_)
                  have L_49 : ∀ (fu : Nat) (k109 : Nat) (ge_ : Nat → Int64), k109 ≤ n → (∀ j, j < k109 → ge_ j = (rdP n i k69 j).toInt64) → n - k109 < fu → ∀ (H : Heap) (locs : List Loc) (ls : Array Slot), gW D T A s [(o, .inr (8, [.int (nI 0), .ref g1, .ref g2, .ref g3, .ref g4, .int (nI tp), .int w6, .int w7, .int w8, .int w9, .int w10, .int w11, .int w12, .int w13, .int w14, .ref g15, .int w16, .ref g17, .int w18, .int w19, .ref g20, .int wv, .ref g22, .ref g23, .ref g24, .int w25, .int w26, .int w27, .ref g28, .ref g29, .int w30, .ref g31, .ref g32, .ref g33])), (g1, .inl (T 0, 282, .inl fa)), (g15, .inl (T 0, 10, .inl ga_)), (g17, .inl (T 0, 94, .inl gb_)), (g20, .inl (T 1, 10, .inr (.inl ge_))), (g22, .inl (T 1, 10, .inr (.inl gd_)))] H locs → lv_has ls 7 [(6, .int (nI k109)), (5, .int z_46), (4, .int (nI k69)), (3, .int x3), (0, .ref o), (1, .int (nI i)), (2, .int wh)] → W p l e (rmD 4 0 0) s m args below meth c H locs 0 0 (MQ below (gQ D A (q_m_bestRound_f T n o le wh w0 g1 g2 g3 g4 tp w6 w7 w8 w9 w10 w11 w12 w13 w14 g15 w16 g17 w18 w19 g20 w21 g22 g23 g24 w25 w26 w27 g28 g29 w30 g31 g32 g33 fa fh fk fr fb)) args s 0 0 A) (F0 m 109 ls []) := by
                    intro fu_109
                    induction fu_109 with
                    | zero => intro k109 ge_ hk109 hge hmu; exact absurd hmu (Nat.not_lt_zero _)
                    | succ fu_109 ih_109 =>
                      intro k109 ge_ hk109 hge hmu_109 H locs ls V hl
                      refine lv_iload hx hb dX8_bestRound_109 (lv_at hl 0 rfl) ?_
                      refine lv_aload_n hx hb dX8_bestRound_111 rfl (lv_at hl 4 rfl) ?_
                      refine g_get hC V (ci := 8) uwX8 0 rfl rfl 1 (by decide) w_913 rfl rfl dX8_bestRound_112 ?_
                      refine lv_iconst (v := (nI 0)) hx hb dX8_bestRound_115 (by decide +kernel) ?_
                      refine g_iald hC V 1 rfl (vp_in_nI (by decide) (by decide)) (v := (nI n)) (by rw [nI_clamp (by decide)]; first | rfl | exact h_a.2.1) dX8_bestRound_116 ?_
                      refine lv_icmp_ge (tgt := 156) hx hb dX8_bestRound_117 (by decide) (fun c_50 => ?_) (fun c_50 => ?_)
                      · skip
                        have c_50 := b_le (by omega) (by omega) c_50
                        refine lv_aload_n hx hb dX8_bestRound_156 rfl (lv_at hl 4 rfl) ?_
                        refine lv_iload_n hx hb dX8_bestRound_157 rfl (lv_at hl 5 rfl) ?_
                        refine g_callVU (nA := 1) hC V hl.1 (m_holdsBy_f l D T (rdP n i k69) n o i (nI 0) g1 g2 g3 g4 tp w6 w7 w8 w9 w10 w11 w12 w13 w14 g15 w16 g17 w18 w19 g20 wv g22 g23 g24 w25 w26 w27 g28 g29 w30 g31 g32 g33 fa ga_ gb_ ge_ h_a ⟨by omega, by omega⟩ h_lb (fun k hk t ht => rj_p (hge k (by omega)) (by omega))) w_1229 w_1231 w_s64 w_9 w_1232 (by decide +kernel) rfl ⟨(Nat.le_of_ble_eq_true rfl), (Nat.le_of_ble_eq_true rfl)⟩ 0 (ci := 8) rfl rfl [0, 1, 2, 3, 4] rfl rfl (Nat.le_of_ble_eq_true rfl) dX8_bestRound_158 ⟨(Nat.le_of_ble_eq_true rfl), (Nat.le_of_ble_eq_true rfl)⟩ rfl (fun r w1 H locs hQ V => ?_)
                        obtain ⟨z_51, wq_52, gh_53, gk_54, rfl, rfl, f_55⟩ := hQ
                        have V : gW D T A s [(o, .inr (8, [.int (nI 0), .ref g1, .ref g2, .ref g3, .ref g4, .int (nI tp), .int w6, .int w7, .int w8, .int w9, .int w10, .int w11, .int w12, .int w13, .int w14, .ref g15, .int w16, .ref g17, .int w18, .int w19, .ref g20, .int wq_52, .ref g22, .ref g23, .ref g24, .int w25, .int w26, .int w27, .ref g28, .ref g29, .int w30, .ref g31, .ref g32, .ref g33])), (g1, .inl (T 0, 282, .inl fa)), (g15, .inl (T 0, 10, .inl gh_53)), (g17, .inl (T 0, 94, .inl gk_54)), (g20, .inl (T 1, 10, .inr (.inl ge_))), (g22, .inl (T 1, 10, .inr (.inl gd_)))] H locs := V _ [0, 0, 0, 0, 0] rfl rfl rfl (by decide +kernel) rfl
                        show W p l e _ s m args below meth c H locs _ _ _ (F0 m 161 ls [.int z_51])
                        refine lv_iconst (v := (-1)) hx hb dX8_bestRound_161 (by decide +kernel) ?_
                        refine lv_icmp_eq (tgt := 168) hx hb dX8_bestRound_162 (by decide) (fun c_56 => ?_) (fun c_56 => ?_)
                        · skip
                          refine lv_iload hx hb dX8_bestRound_168 (lv_at hl 1 rfl) ?_
                          refine lv_istore_n (lv' := [(3, .int z_46), (6, .int (nI k109)), (5, .int z_46), (4, .int (nI k69)), (0, .ref o), (1, .int (nI i)), (2, .int wh)]) hx hb dX8_bestRound_170 rfl hl (by decide) rfl (fun ls hl => ?_)
                          refine lv_iconst (v := (nI 0)) hx hb dX8_bestRound_171 (by decide +kernel) ?_
                          refine lv_istore (lv' := [(6, .int (nI 0)), (3, .int z_46), (5, .int z_46), (4, .int (nI k69)), (0, .ref o), (1, .int (nI i)), (2, .int wh)]) hx hb dX8_bestRound_172 hl (by decide) rfl (fun ls hl => ?_)
                          have L_57 : ∀ (fu : Nat) (k174 : Nat) (gf_ : Nat → Int64), k174 ≤ n → (∀ j, j < k174 → gf_ j = ge_ j) → n - k174 < fu → ∀ (H : Heap) (locs : List Loc) (ls : Array Slot), gW D T A s [(o, .inr (8, [.int (nI 0), .ref g1, .ref g2, .ref g3, .ref g4, .int (nI tp), .int w6, .int w7, .int w8, .int w9, .int w10, .int w11, .int w12, .int w13, .int w14, .ref g15, .int w16, .ref g17, .int w18, .int w19, .ref g20, .int wq_52, .ref g22, .ref g23, .ref g24, .int w25, .int w26, .int w27, .ref g28, .ref g29, .int w30, .ref g31, .ref g32, .ref g33])), (g1, .inl (T 0, 282, .inl fa)), (g15, .inl (T 0, 10, .inl gh_53)), (g17, .inl (T 0, 94, .inl gk_54)), (g20, .inl (T 1, 10, .inr (.inl ge_))), (g22, .inl (T 1, 10, .inr (.inl gf_)))] H locs → lv_has ls 7 [(6, .int (nI k174)), (3, .int z_46), (5, .int z_46), (4, .int (nI k69)), (0, .ref o), (1, .int (nI i)), (2, .int wh)] → W p l e (rmD 4 0 0) s m args below meth c H locs 0 0 (MQ below (gQ D A (q_m_bestRound_f T n o le wh w0 g1 g2 g3 g4 tp w6 w7 w8 w9 w10 w11 w12 w13 w14 g15 w16 g17 w18 w19 g20 w21 g22 g23 g24 w25 w26 w27 g28 g29 w30 g31 g32 g33 fa fh fk fr fb)) args s 0 0 A) (F0 m 174 ls []) := by
                            intro fu_174
                            induction fu_174 with
                            | zero => intro k174 gf_ hk174 hgf hmu; exact absurd hmu (Nat.not_lt_zero _)
                            | succ fu_174 ih_174 =>
                              intro k174 gf_ hk174 hgf hmu_174 H locs ls V hl
                              refine lv_iload hx hb dX8_bestRound_174 (lv_at hl 0 rfl) ?_
                              refine lv_aload_n hx hb dX8_bestRound_176 rfl (lv_at hl 4 rfl) ?_
                              refine g_get hC V (ci := 8) uwX8 0 rfl rfl 1 (by decide) w_913 rfl rfl dX8_bestRound_177 ?_
                              refine lv_iconst (v := (nI 0)) hx hb dX8_bestRound_180 (by decide +kernel) ?_
                              refine g_iald hC V 1 rfl (vp_in_nI (by decide) (by decide)) (v := (nI n)) (by rw [nI_clamp (by decide)]; first | rfl | exact h_a.2.1) dX8_bestRound_181 ?_
                              refine lv_icmp_ge (tgt := 205) hx hb dX8_bestRound_182 (by decide) (fun c_58 => ?_) (fun c_58 => ?_)
                              · skip
                                have c_58 := b_le (by omega) (by omega) c_58
                                refine lv_iinc (v := (nI (k69 + 1))) (lv' := [(4, .int (nI (k69 + 1))), (6, .int (nI k174)), (3, .int z_46), (5, .int z_46), (0, .ref o), (1, .int (nI i)), (2, .int wh)]) hx hb dX8_bestRound_205 hl (k := 3) rfl (nI_1 _) (by decide) rfl (fun ls hl => ?_)
                                refine lv_goto (tgt := 69) hx hb dX8_bestRound_208 (by decide) ?_
                                exact ih_69 (k69 + 1) z_46 wq_52 gh_53 gk_54 ge_ gf_ (by omega) (rj_y hR hbc (Or.inl c_48) (ho_nv f_55 c_56) (fun i hi => (hgf i (by omega)).trans (hge i (by omega)))) (by omega) _ _ _ V (lv_sub hl [0, 2, 4, 5, 6] rfl)
                              · skip
                                have c_58 := b_nle (by omega) (by omega) c_58
                                refine lv_aload_n hx hb dX8_bestRound_185 rfl (lv_at hl 4 rfl) ?_
                                refine g_get hC V (ci := 8) uwX8 0 rfl rfl 22 (by decide) w_934 rfl rfl dX8_bestRound_186 ?_
                                refine lv_iload hx hb dX8_bestRound_189 (lv_at hl 0 rfl) ?_
                                refine lv_aload_n hx hb dX8_bestRound_191 rfl (lv_at hl 4 rfl) ?_
                                refine g_get hC V (ci := 8) uwX8 0 rfl rfl 20 (by decide) w_932 rfl rfl dX8_bestRound_192 ?_
                                refine lv_iload hx hb dX8_bestRound_195 (lv_at hl 0 rfl) ?_
                                refine g_lald hC V 4 rfl (vp_in_nI (by omega) (by omega)) (v := (ge_ k174)) (congrArg _ (nI_clamp (by omega))) dX8_bestRound_197 ?_
                                refine g_last hC V 5 rfl (vp_in_nI (by omega) (by omega)) (f' := (vp_updL gf_ k174 (ge_ k174))) (by rw [nI_clamp (by omega)]) (ws' := [(o, .inr (8, [.int (nI 0), .ref g1, .ref g2, .ref g3, .ref g4, .int (nI tp), .int w6, .int w7, .int w8, .int w9, .int w10, .int w11, .int w12, .int w13, .int w14, .ref g15, .int w16, .ref g17, .int w18, .int w19, .ref g20, .int wq_52, .ref g22, .ref g23, .ref g24, .int w25, .int w26, .int w27, .ref g28, .ref g29, .int w30, .ref g31, .ref g32, .ref g33])), (g1, .inl (T 0, 282, .inl fa)), (g15, .inl (T 0, 10, .inl gh_53)), (g17, .inl (T 0, 94, .inl gk_54)), (g20, .inl (T 1, 10, .inr (.inl ge_))), (g22, .inl (T 1, 10, .inr (.inl (vp_updL gf_ k174 (ge_ k174)))))]) rfl dX8_bestRound_198 (fun H locs V => ?_)
                                refine lv_iinc (v := (nI (k174 + 1))) (lv' := [(6, .int (nI (k174 + 1))), (3, .int z_46), (5, .int z_46), (4, .int (nI k69)), (0, .ref o), (1, .int (nI i)), (2, .int wh)]) hx hb dX8_bestRound_199 hl (k := 0) rfl (nI_1 _) (by decide) rfl (fun ls hl => ?_)
                                refine lv_goto (tgt := 174) hx hb dX8_bestRound_202 (by decide) ?_
                                exact ih_174 (k174 + 1) (vp_updL gf_ k174 (ge_ k174)) (by omega) (upL_one (p := fun j x => x = ge_ j) hgf rfl) (by omega) _ _ _ V (lv_sub hl [0, 1, 2, 3, 4, 5, 6] rfl)
                          exact L_57 _ 0 gd_ (by omega) (fun i h => absurd h (Nat.not_lt_zero _)) (Nat.lt_succ_self _) _ _ _ V (lv_sub hl [0, 1, 2, 3, 4, 5, 6] rfl)
                        · skip
                          refine lv_goto (tgt := 205) hx hb dX8_bestRound_165 (by decide) ?_
                          refine lv_iinc (v := (nI (k69 + 1))) (lv' := [(4, .int (nI (k69 + 1))), (6, .int (nI k109)), (5, .int z_46), (3, .int x3), (0, .ref o), (1, .int (nI i)), (2, .int wh)]) hx hb dX8_bestRound_205 hl (k := 2) rfl (nI_1 _) (by decide) rfl (fun ls hl => ?_)
                          refine lv_goto (tgt := 69) hx hb dX8_bestRound_208 (by decide) ?_
                          exact ih_69 (k69 + 1) x3 wq_52 gh_53 gk_54 ge_ gd_ (by omega) (rz_s2 hR (ho_nn f_55 c_56)) (by omega) _ _ _ V (lv_sub hl [0, 3, 4, 5, 6] rfl)
                      · skip
                        have c_50 := b_nle (by omega) (by omega) c_50
                        refine lv_aload_n hx hb dX8_bestRound_120 rfl (lv_at hl 4 rfl) ?_
                        refine g_get hC V (ci := 8) uwX8 0 rfl rfl 20 (by decide) w_932 rfl rfl dX8_bestRound_121 ?_
                        refine lv_iload hx hb dX8_bestRound_124 (lv_at hl 0 rfl) ?_
                        refine lv_iload hx hb dX8_bestRound_126 (lv_at hl 2 rfl) ?_
                        refine lv_aload_n hx hb dX8_bestRound_128 rfl (lv_at hl 4 rfl) ?_
                        refine g_get hC V (ci := 8) uwX8 0 rfl rfl 1 (by decide) w_913 rfl rfl dX8_bestRound_129 ?_
                        refine lv_iconst (v := (nI 0)) hx hb dX8_bestRound_132 (by decide +kernel) ?_
                        refine g_iald hC V 1 rfl (vp_in_nI (by decide) (by decide)) (v := (nI n)) (by rw [nI_clamp (by decide)]; first | rfl | exact h_a.2.1) dX8_bestRound_133 ?_
                        refine lv_iconst (v := (nI 1)) hx hb dX8_bestRound_134 (by decide +kernel) ?_
                        refine lv_isub hx hb dX8_bestRound_135 ?_
                        refine g_vi (y := (nI (n - 1))) (nI_sub (by omega)) ?_
                        refine lv_iload hx hb dX8_bestRound_136 (lv_at hl 0 rfl) ?_
                        refine lv_isub hx hb dX8_bestRound_138 ?_
                        refine g_vi (y := (nI ((n - 1) - k109))) (nI_sub (by omega)) ?_
                        refine lv_iload_n hx hb dX8_bestRound_139 rfl (lv_at hl 5 rfl) ?_
                        refine lv_imul hx hb dX8_bestRound_140 ?_
                        refine g_vi (y := (nI (((n - 1) - k109) * i))) (pk_mul _ _) ?_
                        refine lv_ishr hx hb dX8_bestRound_141 ?_
                        refine lv_iconst (v := (nI 1)) hx hb dX8_bestRound_142 (by decide +kernel) ?_
                        refine lv_iload_n hx hb dX8_bestRound_143 rfl (lv_at hl 5 rfl) ?_
                        refine lv_ishl hx hb dX8_bestRound_144 ?_
                        refine g_vi (y := (nI (2 ^ i))) (shl_pow (by omega)) ?_
                        refine lv_iconst (v := (nI 1)) hx hb dX8_bestRound_145 (by decide +kernel) ?_
                        refine lv_isub hx hb dX8_bestRound_146 ?_
                        refine g_vi (y := (nI ((2 ^ i) - 1))) (nI_sub (by omega)) ?_
                        refine lv_iand hx hb dX8_bestRound_147 ?_
                        refine lv_i2l (v := (((nI k69) >>> ((nI (((n - 1) - k109) * i)) &&& 31)) &&& (nI ((2 ^ i) - 1))).toInt64) hx hb dX8_bestRound_148 rfl ?_
                        refine g_last hC V 4 rfl (vp_in_nI (by omega) (by omega)) (f' := (vp_updL ge_ k109 ((((nI k69) >>> ((nI (((n - 1) - k109) * i)) &&& 31)) &&& (nI ((2 ^ i) - 1))).toInt64))) (by rw [nI_clamp (by omega)]) (ws' := [(o, .inr (8, [.int (nI 0), .ref g1, .ref g2, .ref g3, .ref g4, .int (nI tp), .int w6, .int w7, .int w8, .int w9, .int w10, .int w11, .int w12, .int w13, .int w14, .ref g15, .int w16, .ref g17, .int w18, .int w19, .ref g20, .int wv, .ref g22, .ref g23, .ref g24, .int w25, .int w26, .int w27, .ref g28, .ref g29, .int w30, .ref g31, .ref g32, .ref g33])), (g1, .inl (T 0, 282, .inl fa)), (g15, .inl (T 0, 10, .inl ga_)), (g17, .inl (T 0, 94, .inl gb_)), (g20, .inl (T 1, 10, .inr (.inl (vp_updL ge_ k109 ((((nI k69) >>> ((nI (((n - 1) - k109) * i)) &&& 31)) &&& (nI ((2 ^ i) - 1))).toInt64))))), (g22, .inl (T 1, 10, .inr (.inl gd_)))]) rfl dX8_bestRound_149 (fun H locs V => ?_)
                        refine lv_iinc (v := (nI (k109 + 1))) (lv' := [(6, .int (nI (k109 + 1))), (5, .int z_46), (4, .int (nI k69)), (3, .int x3), (0, .ref o), (1, .int (nI i)), (2, .int wh)]) hx hb dX8_bestRound_150 hl (k := 0) rfl (nI_1 _) (by decide) rfl (fun ls hl => ?_)
                        refine lv_goto (tgt := 109) hx hb dX8_bestRound_153 (by decide) ?_
                        exact ih_109 (k109 + 1) (vp_updL ge_ k109 ((((nI k69) >>> ((nI (((n - 1) - k109) * i)) &&& 31)) &&& (nI ((2 ^ i) - 1))).toInt64)) (by omega) (upL_one (p := fun j x => x = (rdP n i k69 j).toInt64) hge rfl) (by omega) _ _ _ V (lv_sub hl [0, 1, 2, 3, 4, 5, 6] rfl)
                  exact L_49 _ 0 gc_ (by omega) (fun i h => absurd h (Nat.not_lt_zero _)) (Nat.lt_succ_self _) _ _ _ V (lv_sub hl [0, 1, 2, 3, 4, 5, 6] rfl)
                · skip
                  refine lv_iload hx hb dX8_bestRound_97 (lv_at hl 0 rfl) ?_
                  refine lv_iload_n hx hb dX8_bestRound_99 rfl (lv_at hl 2 rfl) ?_
                  refine lv_icmp_lt (tgt := 106) hx hb dX8_bestRound_100 (by decide) (fun c_59 => ?_) (fun c_59 => ?_)
                  · skip
                    refine lv_iconst (v := (nI 0)) hx hb dX8_bestRound_106 (by decide +kernel) ?_
                    refine lv_istore (lv' := [(6, .int (nI 0)), (5, .int z_46), (4, .int (nI k69)), (3, .int x3), (0, .ref o), (1, .int (nI i)), (2, .int wh)]) hx hb dX8_bestRound_107 hl (by decide) rfl (fun ls hl => ?_)
                    have L_60 : ∀ (fu : Nat) (k109 : Nat) (ge_ : Nat → Int64), k109 ≤ n → (∀ j, j < k109 → ge_ j = (rdP n i k69 j).toInt64) → n - k109 < fu → ∀ (H : Heap) (locs : List Loc) (ls : Array Slot), gW D T A s [(o, .inr (8, [.int (nI 0), .ref g1, .ref g2, .ref g3, .ref g4, .int (nI tp), .int w6, .int w7, .int w8, .int w9, .int w10, .int w11, .int w12, .int w13, .int w14, .ref g15, .int w16, .ref g17, .int w18, .int w19, .ref g20, .int wv, .ref g22, .ref g23, .ref g24, .int w25, .int w26, .int w27, .ref g28, .ref g29, .int w30, .ref g31, .ref g32, .ref g33])), (g1, .inl (T 0, 282, .inl fa)), (g15, .inl (T 0, 10, .inl ga_)), (g17, .inl (T 0, 94, .inl gb_)), (g20, .inl (T 1, 10, .inr (.inl ge_))), (g22, .inl (T 1, 10, .inr (.inl gd_)))] H locs → lv_has ls 7 [(6, .int (nI k109)), (5, .int z_46), (4, .int (nI k69)), (3, .int x3), (0, .ref o), (1, .int (nI i)), (2, .int wh)] → W p l e (rmD 4 0 0) s m args below meth c H locs 0 0 (MQ below (gQ D A (q_m_bestRound_f T n o le wh w0 g1 g2 g3 g4 tp w6 w7 w8 w9 w10 w11 w12 w13 w14 g15 w16 g17 w18 w19 g20 w21 g22 g23 g24 w25 w26 w27 g28 g29 w30 g31 g32 g33 fa fh fk fr fb)) args s 0 0 A) (F0 m 109 ls []) := by
                      intro fu_109
                      induction fu_109 with
                      | zero => intro k109 ge_ hk109 hge hmu; exact absurd hmu (Nat.not_lt_zero _)
                      | succ fu_109 ih_109 =>
                        intro k109 ge_ hk109 hge hmu_109 H locs ls V hl
                        refine lv_iload hx hb dX8_bestRound_109 (lv_at hl 0 rfl) ?_
                        refine lv_aload_n hx hb dX8_bestRound_111 rfl (lv_at hl 4 rfl) ?_
                        refine g_get hC V (ci := 8) uwX8 0 rfl rfl 1 (by decide) w_913 rfl rfl dX8_bestRound_112 ?_
                        refine lv_iconst (v := (nI 0)) hx hb dX8_bestRound_115 (by decide +kernel) ?_
                        refine g_iald hC V 1 rfl (vp_in_nI (by decide) (by decide)) (v := (nI n)) (by rw [nI_clamp (by decide)]; first | rfl | exact h_a.2.1) dX8_bestRound_116 ?_
                        refine lv_icmp_ge (tgt := 156) hx hb dX8_bestRound_117 (by decide) (fun c_61 => ?_) (fun c_61 => ?_)
                        · skip
                          have c_61 := b_le (by omega) (by omega) c_61
                          refine lv_aload_n hx hb dX8_bestRound_156 rfl (lv_at hl 4 rfl) ?_
                          refine lv_iload_n hx hb dX8_bestRound_157 rfl (lv_at hl 5 rfl) ?_
                          refine g_callVU (nA := 1) hC V hl.1 (m_holdsBy_f l D T (rdP n i k69) n o i (nI 0) g1 g2 g3 g4 tp w6 w7 w8 w9 w10 w11 w12 w13 w14 g15 w16 g17 w18 w19 g20 wv g22 g23 g24 w25 w26 w27 g28 g29 w30 g31 g32 g33 fa ga_ gb_ ge_ h_a ⟨by omega, by omega⟩ h_lb (fun k hk t ht => rj_p (hge k (by omega)) (by omega))) w_1229 w_1231 w_s64 w_9 w_1232 (by decide +kernel) rfl ⟨(Nat.le_of_ble_eq_true rfl), (Nat.le_of_ble_eq_true rfl)⟩ 0 (ci := 8) rfl rfl [0, 1, 2, 3, 4] rfl rfl (Nat.le_of_ble_eq_true rfl) dX8_bestRound_158 ⟨(Nat.le_of_ble_eq_true rfl), (Nat.le_of_ble_eq_true rfl)⟩ rfl (fun r w1 H locs hQ V => ?_)
                          obtain ⟨z_62, wq_63, gh_64, gk_65, rfl, rfl, f_66⟩ := hQ
                          have V : gW D T A s [(o, .inr (8, [.int (nI 0), .ref g1, .ref g2, .ref g3, .ref g4, .int (nI tp), .int w6, .int w7, .int w8, .int w9, .int w10, .int w11, .int w12, .int w13, .int w14, .ref g15, .int w16, .ref g17, .int w18, .int w19, .ref g20, .int wq_63, .ref g22, .ref g23, .ref g24, .int w25, .int w26, .int w27, .ref g28, .ref g29, .int w30, .ref g31, .ref g32, .ref g33])), (g1, .inl (T 0, 282, .inl fa)), (g15, .inl (T 0, 10, .inl gh_64)), (g17, .inl (T 0, 94, .inl gk_65)), (g20, .inl (T 1, 10, .inr (.inl ge_))), (g22, .inl (T 1, 10, .inr (.inl gd_)))] H locs := V _ [0, 0, 0, 0, 0] rfl rfl rfl (by decide +kernel) rfl
                          show W p l e _ s m args below meth c H locs _ _ _ (F0 m 161 ls [.int z_62])
                          refine lv_iconst (v := (-1)) hx hb dX8_bestRound_161 (by decide +kernel) ?_
                          refine lv_icmp_eq (tgt := 168) hx hb dX8_bestRound_162 (by decide) (fun c_67 => ?_) (fun c_67 => ?_)
                          · skip
                            refine lv_iload hx hb dX8_bestRound_168 (lv_at hl 1 rfl) ?_
                            refine lv_istore_n (lv' := [(3, .int z_46), (6, .int (nI k109)), (5, .int z_46), (4, .int (nI k69)), (0, .ref o), (1, .int (nI i)), (2, .int wh)]) hx hb dX8_bestRound_170 rfl hl (by decide) rfl (fun ls hl => ?_)
                            refine lv_iconst (v := (nI 0)) hx hb dX8_bestRound_171 (by decide +kernel) ?_
                            refine lv_istore (lv' := [(6, .int (nI 0)), (3, .int z_46), (5, .int z_46), (4, .int (nI k69)), (0, .ref o), (1, .int (nI i)), (2, .int wh)]) hx hb dX8_bestRound_172 hl (by decide) rfl (fun ls hl => ?_)
                            have L_68 : ∀ (fu : Nat) (k174 : Nat) (gf_ : Nat → Int64), k174 ≤ n → (∀ j, j < k174 → gf_ j = ge_ j) → n - k174 < fu → ∀ (H : Heap) (locs : List Loc) (ls : Array Slot), gW D T A s [(o, .inr (8, [.int (nI 0), .ref g1, .ref g2, .ref g3, .ref g4, .int (nI tp), .int w6, .int w7, .int w8, .int w9, .int w10, .int w11, .int w12, .int w13, .int w14, .ref g15, .int w16, .ref g17, .int w18, .int w19, .ref g20, .int wq_63, .ref g22, .ref g23, .ref g24, .int w25, .int w26, .int w27, .ref g28, .ref g29, .int w30, .ref g31, .ref g32, .ref g33])), (g1, .inl (T 0, 282, .inl fa)), (g15, .inl (T 0, 10, .inl gh_64)), (g17, .inl (T 0, 94, .inl gk_65)), (g20, .inl (T 1, 10, .inr (.inl ge_))), (g22, .inl (T 1, 10, .inr (.inl gf_)))] H locs → lv_has ls 7 [(6, .int (nI k174)), (3, .int z_46), (5, .int z_46), (4, .int (nI k69)), (0, .ref o), (1, .int (nI i)), (2, .int wh)] → W p l e (rmD 4 0 0) s m args below meth c H locs 0 0 (MQ below (gQ D A (q_m_bestRound_f T n o le wh w0 g1 g2 g3 g4 tp w6 w7 w8 w9 w10 w11 w12 w13 w14 g15 w16 g17 w18 w19 g20 w21 g22 g23 g24 w25 w26 w27 g28 g29 w30 g31 g32 g33 fa fh fk fr fb)) args s 0 0 A) (F0 m 174 ls []) := by
                              intro fu_174
                              induction fu_174 with
                              | zero => intro k174 gf_ hk174 hgf hmu; exact absurd hmu (Nat.not_lt_zero _)
                              | succ fu_174 ih_174 =>
                                intro k174 gf_ hk174 hgf hmu_174 H locs ls V hl
                                refine lv_iload hx hb dX8_bestRound_174 (lv_at hl 0 rfl) ?_
                                refine lv_aload_n hx hb dX8_bestRound_176 rfl (lv_at hl 4 rfl) ?_
                                refine g_get hC V (ci := 8) uwX8 0 rfl rfl 1 (by decide) w_913 rfl rfl dX8_bestRound_177 ?_
                                refine lv_iconst (v := (nI 0)) hx hb dX8_bestRound_180 (by decide +kernel) ?_
                                refine g_iald hC V 1 rfl (vp_in_nI (by decide) (by decide)) (v := (nI n)) (by rw [nI_clamp (by decide)]; first | rfl | exact h_a.2.1) dX8_bestRound_181 ?_
                                refine lv_icmp_ge (tgt := 205) hx hb dX8_bestRound_182 (by decide) (fun c_69 => ?_) (fun c_69 => ?_)
                                · skip
                                  have c_69 := b_le (by omega) (by omega) c_69
                                  refine lv_iinc (v := (nI (k69 + 1))) (lv' := [(4, .int (nI (k69 + 1))), (6, .int (nI k174)), (3, .int z_46), (5, .int z_46), (0, .ref o), (1, .int (nI i)), (2, .int wh)]) hx hb dX8_bestRound_205 hl (k := 3) rfl (nI_1 _) (by decide) rfl (fun ls hl => ?_)
                                  refine lv_goto (tgt := 69) hx hb dX8_bestRound_208 (by decide) ?_
                                  exact ih_69 (k69 + 1) z_46 wq_63 gh_64 gk_65 ge_ gf_ (by omega) (rj_y hR hbc (Or.inr c_59) (ho_nv f_66 c_67) (fun i hi => (hgf i (by omega)).trans (hge i (by omega)))) (by omega) _ _ _ V (lv_sub hl [0, 2, 4, 5, 6] rfl)
                                · skip
                                  have c_69 := b_nle (by omega) (by omega) c_69
                                  refine lv_aload_n hx hb dX8_bestRound_185 rfl (lv_at hl 4 rfl) ?_
                                  refine g_get hC V (ci := 8) uwX8 0 rfl rfl 22 (by decide) w_934 rfl rfl dX8_bestRound_186 ?_
                                  refine lv_iload hx hb dX8_bestRound_189 (lv_at hl 0 rfl) ?_
                                  refine lv_aload_n hx hb dX8_bestRound_191 rfl (lv_at hl 4 rfl) ?_
                                  refine g_get hC V (ci := 8) uwX8 0 rfl rfl 20 (by decide) w_932 rfl rfl dX8_bestRound_192 ?_
                                  refine lv_iload hx hb dX8_bestRound_195 (lv_at hl 0 rfl) ?_
                                  refine g_lald hC V 4 rfl (vp_in_nI (by omega) (by omega)) (v := (ge_ k174)) (congrArg _ (nI_clamp (by omega))) dX8_bestRound_197 ?_
                                  refine g_last hC V 5 rfl (vp_in_nI (by omega) (by omega)) (f' := (vp_updL gf_ k174 (ge_ k174))) (by rw [nI_clamp (by omega)]) (ws' := [(o, .inr (8, [.int (nI 0), .ref g1, .ref g2, .ref g3, .ref g4, .int (nI tp), .int w6, .int w7, .int w8, .int w9, .int w10, .int w11, .int w12, .int w13, .int w14, .ref g15, .int w16, .ref g17, .int w18, .int w19, .ref g20, .int wq_63, .ref g22, .ref g23, .ref g24, .int w25, .int w26, .int w27, .ref g28, .ref g29, .int w30, .ref g31, .ref g32, .ref g33])), (g1, .inl (T 0, 282, .inl fa)), (g15, .inl (T 0, 10, .inl gh_64)), (g17, .inl (T 0, 94, .inl gk_65)), (g20, .inl (T 1, 10, .inr (.inl ge_))), (g22, .inl (T 1, 10, .inr (.inl (vp_updL gf_ k174 (ge_ k174)))))]) rfl dX8_bestRound_198 (fun H locs V => ?_)
                                  refine lv_iinc (v := (nI (k174 + 1))) (lv' := [(6, .int (nI (k174 + 1))), (3, .int z_46), (5, .int z_46), (4, .int (nI k69)), (0, .ref o), (1, .int (nI i)), (2, .int wh)]) hx hb dX8_bestRound_199 hl (k := 0) rfl (nI_1 _) (by decide) rfl (fun ls hl => ?_)
                                  refine lv_goto (tgt := 174) hx hb dX8_bestRound_202 (by decide) ?_
                                  exact ih_174 (k174 + 1) (vp_updL gf_ k174 (ge_ k174)) (by omega) (upL_one (p := fun j x => x = ge_ j) hgf rfl) (by omega) _ _ _ V (lv_sub hl [0, 1, 2, 3, 4, 5, 6] rfl)
                            exact L_68 _ 0 gd_ (by omega) (fun i h => absurd h (Nat.not_lt_zero _)) (Nat.lt_succ_self _) _ _ _ V (lv_sub hl [0, 1, 2, 3, 4, 5, 6] rfl)
                          · skip
                            refine lv_goto (tgt := 205) hx hb dX8_bestRound_165 (by decide) ?_
                            refine lv_iinc (v := (nI (k69 + 1))) (lv' := [(4, .int (nI (k69 + 1))), (6, .int (nI k109)), (5, .int z_46), (3, .int x3), (0, .ref o), (1, .int (nI i)), (2, .int wh)]) hx hb dX8_bestRound_205 hl (k := 2) rfl (nI_1 _) (by decide) rfl (fun ls hl => ?_)
                            refine lv_goto (tgt := 69) hx hb dX8_bestRound_208 (by decide) ?_
                            exact ih_69 (k69 + 1) x3 wq_63 gh_64 gk_65 ge_ gd_ (by omega) (rz_s2 hR (ho_nn f_66 c_67)) (by omega) _ _ _ V (lv_sub hl [0, 3, 4, 5, 6] rfl)
                        · skip
                          have c_61 := b_nle (by omega) (by omega) c_61
                          refine lv_aload_n hx hb dX8_bestRound_120 rfl (lv_at hl 4 rfl) ?_
                          refine g_get hC V (ci := 8) uwX8 0 rfl rfl 20 (by decide) w_932 rfl rfl dX8_bestRound_121 ?_
                          refine lv_iload hx hb dX8_bestRound_124 (lv_at hl 0 rfl) ?_
                          refine lv_iload hx hb dX8_bestRound_126 (lv_at hl 2 rfl) ?_
                          refine lv_aload_n hx hb dX8_bestRound_128 rfl (lv_at hl 4 rfl) ?_
                          refine g_get hC V (ci := 8) uwX8 0 rfl rfl 1 (by decide) w_913 rfl rfl dX8_bestRound_129 ?_
                          refine lv_iconst (v := (nI 0)) hx hb dX8_bestRound_132 (by decide +kernel) ?_
                          refine g_iald hC V 1 rfl (vp_in_nI (by decide) (by decide)) (v := (nI n)) (by rw [nI_clamp (by decide)]; first | rfl | exact h_a.2.1) dX8_bestRound_133 ?_
                          refine lv_iconst (v := (nI 1)) hx hb dX8_bestRound_134 (by decide +kernel) ?_
                          refine lv_isub hx hb dX8_bestRound_135 ?_
                          refine g_vi (y := (nI (n - 1))) (nI_sub (by omega)) ?_
                          refine lv_iload hx hb dX8_bestRound_136 (lv_at hl 0 rfl) ?_
                          refine lv_isub hx hb dX8_bestRound_138 ?_
                          refine g_vi (y := (nI ((n - 1) - k109))) (nI_sub (by omega)) ?_
                          refine lv_iload_n hx hb dX8_bestRound_139 rfl (lv_at hl 5 rfl) ?_
                          refine lv_imul hx hb dX8_bestRound_140 ?_
                          refine g_vi (y := (nI (((n - 1) - k109) * i))) (pk_mul _ _) ?_
                          refine lv_ishr hx hb dX8_bestRound_141 ?_
                          refine lv_iconst (v := (nI 1)) hx hb dX8_bestRound_142 (by decide +kernel) ?_
                          refine lv_iload_n hx hb dX8_bestRound_143 rfl (lv_at hl 5 rfl) ?_
                          refine lv_ishl hx hb dX8_bestRound_144 ?_
                          refine g_vi (y := (nI (2 ^ i))) (shl_pow (by omega)) ?_
                          refine lv_iconst (v := (nI 1)) hx hb dX8_bestRound_145 (by decide +kernel) ?_
                          refine lv_isub hx hb dX8_bestRound_146 ?_
                          refine g_vi (y := (nI ((2 ^ i) - 1))) (nI_sub (by omega)) ?_
                          refine lv_iand hx hb dX8_bestRound_147 ?_
                          refine lv_i2l (v := (((nI k69) >>> ((nI (((n - 1) - k109) * i)) &&& 31)) &&& (nI ((2 ^ i) - 1))).toInt64) hx hb dX8_bestRound_148 rfl ?_
                          refine g_last hC V 4 rfl (vp_in_nI (by omega) (by omega)) (f' := (vp_updL ge_ k109 ((((nI k69) >>> ((nI (((n - 1) - k109) * i)) &&& 31)) &&& (nI ((2 ^ i) - 1))).toInt64))) (by rw [nI_clamp (by omega)]) (ws' := [(o, .inr (8, [.int (nI 0), .ref g1, .ref g2, .ref g3, .ref g4, .int (nI tp), .int w6, .int w7, .int w8, .int w9, .int w10, .int w11, .int w12, .int w13, .int w14, .ref g15, .int w16, .ref g17, .int w18, .int w19, .ref g20, .int wv, .ref g22, .ref g23, .ref g24, .int w25, .int w26, .int w27, .ref g28, .ref g29, .int w30, .ref g31, .ref g32, .ref g33])), (g1, .inl (T 0, 282, .inl fa)), (g15, .inl (T 0, 10, .inl ga_)), (g17, .inl (T 0, 94, .inl gb_)), (g20, .inl (T 1, 10, .inr (.inl (vp_updL ge_ k109 ((((nI k69) >>> ((nI (((n - 1) - k109) * i)) &&& 31)) &&& (nI ((2 ^ i) - 1))).toInt64))))), (g22, .inl (T 1, 10, .inr (.inl gd_)))]) rfl dX8_bestRound_149 (fun H locs V => ?_)
                          refine lv_iinc (v := (nI (k109 + 1))) (lv' := [(6, .int (nI (k109 + 1))), (5, .int z_46), (4, .int (nI k69)), (3, .int x3), (0, .ref o), (1, .int (nI i)), (2, .int wh)]) hx hb dX8_bestRound_150 hl (k := 0) rfl (nI_1 _) (by decide) rfl (fun ls hl => ?_)
                          refine lv_goto (tgt := 109) hx hb dX8_bestRound_153 (by decide) ?_
                          exact ih_109 (k109 + 1) (vp_updL ge_ k109 ((((nI k69) >>> ((nI (((n - 1) - k109) * i)) &&& 31)) &&& (nI ((2 ^ i) - 1))).toInt64)) (by omega) (upL_one (p := fun j x => x = (rdP n i k69 j).toInt64) hge rfl) (by omega) _ _ _ V (lv_sub hl [0, 1, 2, 3, 4, 5, 6] rfl)
                    exact L_60 _ 0 gc_ (by omega) (fun i h => absurd h (Nat.not_lt_zero _)) (Nat.lt_succ_self _) _ _ _ V (lv_sub hl [0, 1, 2, 3, 4, 5, 6] rfl)
                  · skip
                    refine lv_goto (tgt := 205) hx hb dX8_bestRound_103 (by decide) ?_
                    refine lv_iinc (v := (nI (k69 + 1))) (lv' := [(4, .int (nI (k69 + 1))), (5, .int z_46), (3, .int x3), (0, .ref o), (1, .int (nI i)), (2, .int wh)]) hx hb dX8_bestRound_205 hl (k := 1) rfl (nI_1 _) (by decide) rfl (fun ls hl => ?_)
                    refine lv_goto (tgt := 69) hx hb dX8_bestRound_208 (by decide) ?_
                    exact ih_69 (k69 + 1) x3 wv ga_ gb_ gc_ gd_ (by omega) (rz_s1 hR hbc c_48 c_59) (by omega) _ _ _ V (lv_sub hl [0, 2, 3, 4, 5] rfl)
          exact L_42 _ 0 (-1) w21 fh fk fr fb (by omega) rj_0 (Nat.lt_succ_self _) _ _ _ V (lv_sub hl [0, 1, 2, 3, 4] rfl)
        · skip
          have c_41 := b_nle (by omega) (by omega) c_41
          refine lv_bipush (v := (-4)) hx hb dX8_bestRound_61 (by decide +kernel) ?_
          exact g_iret (Qr := (q_m_bestRound_f T n o le wh w0 g1 g2 g3 g4 tp w6 w7 w8 w9 w10 w11 w12 w13 w14 g15 w16 g17 w18 w19 g20 w21 g22 g23 g24 w25 w26 w27 g28 g29 w30 g31 g32 g33 fa fh fk fr fb)) hC V ⟨(Nat.le_of_ble_eq_true rfl), (Nat.le_of_ble_eq_true rfl)⟩ ⟨(-4), w21, fh, fk, fr, fb, rfl, rfl, (br_4 (fun q => q.2 (sw_y hjw_37 ejw_37)) f_38 f_39 ei (by omega) (by omega))⟩ dX8_bestRound_63
      · have V : gW D T A s [(o, .inr (8, [.int (nI 0), .ref g1, .ref g2, .ref g3, .ref g4, .int (nI tp), .int w6, .int w7, .int w8, .int w9, .int w10, .int w11, .int w12, .int w13, .int w14, .ref g15, .int w16, .ref g17, .int w18, .int w19, .ref g20, .int w21, .ref g22, .ref g23, .ref g24, .int w25, .int w26, .int w27, .ref g28, .ref g29, .int w30, .ref g31, .ref g32, .ref g33])), (g1, .inl (T 0, 282, .inl fa)), (g15, .inl (T 0, 10, .inl fh)), (g17, .inl (T 0, 94, .inl fk)), (g20, .inl (T 1, 10, .inr (.inl fr))), (g22, .inl (T 1, 10, .inr (.inl fb)))] H locs := V _ [] rfl rfl rfl (by decide +kernel) rfl
        show W p l e _ s m args below meth c H locs _ _ _ (F0 m 42 ls [.int (nI 0)])
        refine lv_if_ne (tgt := 48) hx hb dX8_bestRound_42 (by decide) (fun c => absurd (show (nI 0) = 0 by decide +kernel) c) (fun _ => ?_)
        refine lv_bipush (v := (-3)) hx hb dX8_bestRound_45 (by decide +kernel) ?_
        exact g_iret (Qr := (q_m_bestRound_f T n o le wh w0 g1 g2 g3 g4 tp w6 w7 w8 w9 w10 w11 w12 w13 w14 g15 w16 g17 w18 w19 g20 w21 g22 g23 g24 w25 w26 w27 g28 g29 w30 g31 g32 g33 fa fh fk fr fb)) hC V ⟨(Nat.le_of_ble_eq_true rfl), (Nat.le_of_ble_eq_true rfl)⟩ ⟨(-3), w21, fh, fk, fr, fb, rfl, rfl, (br_3 (fun q => q.2 (sw_y hjw_37 ejw_37)) f_40)⟩ dX8_bestRound_47
    · have V : gW D T A s [(o, .inr (8, [.int (nI 0), .ref g1, .ref g2, .ref g3, .ref g4, .int (nI tp), .int w6, .int w7, .int w8, .int w9, .int w10, .int w11, .int w12, .int w13, .int w14, .ref g15, .int w16, .ref g17, .int w18, .int w19, .ref g20, .int w21, .ref g22, .ref g23, .ref g24, .int w25, .int w26, .int w27, .ref g28, .ref g29, .int w30, .ref g31, .ref g32, .ref g33])), (g1, .inl (T 0, 282, .inl fa)), (g15, .inl (T 0, 10, .inl fh)), (g17, .inl (T 0, 94, .inl fk)), (g20, .inl (T 1, 10, .inr (.inl fr))), (g22, .inl (T 1, 10, .inr (.inl fb)))] H locs := V _ [] rfl rfl rfl (by decide +kernel) rfl
      show W p l e _ s m args below meth c H locs _ _ _ (F0 m 27 ls [.int (nI 0)])
      refine lv_if_ne (tgt := 33) hx hb dX8_bestRound_27 (by decide) (fun c => absurd (show (nI 0) = 0 by decide +kernel) c) (fun _ => ?_)
      refine lv_bipush (v := (-2)) hx hb dX8_bestRound_30 (by decide +kernel) ?_
      exact g_iret (Qr := (q_m_bestRound_f T n o le wh w0 g1 g2 g3 g4 tp w6 w7 w8 w9 w10 w11 w12 w13 w14 g15 w16 g17 w18 w19 g20 w21 g22 g23 g24 w25 w26 w27 g28 g29 w30 g31 g32 g33 fa fh fk fr fb)) hC V ⟨(Nat.le_of_ble_eq_true rfl), (Nat.le_of_ble_eq_true rfl)⟩ ⟨(-2), w21, fh, fk, fr, fb, rfl, rfl, (br_2 c_1 (sw_n2 hn10 f_36))⟩ dX8_bestRound_32
