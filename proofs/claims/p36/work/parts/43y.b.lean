def q_m_swapped_f (T : Nat → ClassId) (n : Nat) (o : Nat) (n_ : Int32) (wh : Int32) (w0 : Int32) (g1 : Nat) (g2 : Nat) (g3 : Nat) (g4 : Nat) (tp : Nat) (w6 : Int32) (w7 : Int32) (w8 : Int32) (w9 : Int32) (w10 : Int32) (w11 : Int32) (w12 : Int32) (w13 : Int32) (w14 : Int32) (g15 : Nat) (w16 : Int32) (g17 : Nat) (w18 : Int32) (w19 : Int32) (g20 : Nat) (w21 : Int32) (g22 : Nat) (g23 : Nat) (g24 : Nat) (w25 : Int32) (w26 : Int32) (w27 : Int32) (g28 : Nat) (g29 : Nat) (w30 : Int32) (g31 : Nat) (g32 : Nat) (g33 : Nat) (fa : Nat → Int32) (fh : Nat → Int32) (fk : Nat → Int32) : Option Value → va_W → Prop := fun rr ww => (∃ (z : Int32) (bm : Int32) (gh : Nat → Int32) (gk : Nat → Int32), rr = some (.int z) ∧ ww = [(o, .inr (8, [.int (nI 0), .ref g1, .ref g2, .ref g3, .ref g4, .int (nI tp), .int w6, .int w7, .int w8, .int w9, .int w10, .int w11, .int w12, .int w13, .int w14, .ref g15, .int bm, .ref g17, .int w18, .int w19, .ref g20, .int w21, .ref g22, .ref g23, .ref g24, .int w25, .int w26, .int w27, .ref g28, .ref g29, .int w30, .ref g31, .ref g32, .ref g33])), (g1, .inl (T 0, 282, .inl fa)), (g15, .inl (T 0, 10, .inl gh)), (g17, .inl (T 0, 94, .inl gk))] ∧ z = swA n fa n_ wh)
set_option maxHeartbeats 4000000 in
set_option maxRecDepth 100000 in
theorem m_swapped_f (l : Launch) (D : va_G) (T : Nat → ClassId) (n : Nat) (o : Nat) (n_ : Int32) (wh : Int32) (w0 : Int32) (g1 : Nat) (g2 : Nat) (g3 : Nat) (g4 : Nat) (tp : Nat) (w6 : Int32) (w7 : Int32) (w8 : Int32) (w9 : Int32) (w10 : Int32) (w11 : Int32) (w12 : Int32) (w13 : Int32) (w14 : Int32) (g15 : Nat) (w16 : Int32) (g17 : Nat) (w18 : Int32) (w19 : Int32) (g20 : Nat) (w21 : Int32) (g22 : Nat) (g23 : Nat) (g24 : Nat) (w25 : Int32) (w26 : Int32) (w27 : Int32) (g28 : Nat) (g29 : Nat) (w30 : Int32) (g31 : Nat) (g32 : Nat) (g33 : Nat) (fa : Nat → Int32) (fh : Nat → Int32) (fk : Nat → Int32) (h_a : MI n fa) : Ct l yX8_swapped cX8_swapped 10 (some .int) 5 0 0 D T [.ref o, .int n_, .int wh] [(o, .inr (8, [.int w0, .ref g1, .ref g2, .ref g3, .ref g4, .int (nI tp), .int w6, .int w7, .int w8, .int w9, .int w10, .int w11, .int w12, .int w13, .int w14, .ref g15, .int w16, .ref g17, .int w18, .int w19, .ref g20, .int w21, .ref g22, .ref g23, .ref g24, .int w25, .int w26, .int w27, .ref g28, .ref g29, .int w30, .ref g31, .ref g32, .ref g33])), (g1, .inl (T 0, 282, .inl fa)), (g15, .inl (T 0, 10, .inl fh)), (g17, .inl (T 0, 94, .inl fk))] (q_m_swapped_f T n o n_ wh w0 g1 g2 g3 g4 tp w6 w7 w8 w9 w10 w11 w12 w13 w14 g15 w16 g17 w18 w19 g20 w21 g22 g23 g24 w25 w26 w27 g28 g29 w30 g31 g32 g33 fa fh fk) := by
  refine Ct.of (cc := cX8_swapped) (maxL := 10) (ret := (some .int)) (by decide) (Nat.le_of_ble_eq_true rfl) ?_
  intro p e s m args below meth c A ls hC hnm V hl
  obtain ⟨hx, hb, hr, hml, hown, hts, hlocks⟩ := id hC
  generalize hH : s.heap = H at V ⊢
  clear hH
  have hl : lv_has ls 10 [(0, .ref o), (1, .int n_), (2, .int wh)] := hl
  generalize hlo : ([] : List Loc) = locs at V ⊢
  clear hlo
  have ms0 := ms_rf h_a
  have hn10 := h_a.1
  refine lv_aload_n hx hb dX8_swapped_0 rfl (lv_at hl 0 rfl) ?_
  refine lv_iconst (v := (nI 0)) hx hb dX8_swapped_1 (by decide +kernel) ?_
  refine g_put hC V (ci := 8) uwX8 tyX8 tyX8_ok nmX8 0 rfl rfl 0 (by decide) w_912 rfl rfl rfl rfl (Nat.le_of_ble_eq_true rfl) (ws' := [(o, .inr (8, [.int (nI 0), .ref g1, .ref g2, .ref g3, .ref g4, .int (nI tp), .int w6, .int w7, .int w8, .int w9, .int w10, .int w11, .int w12, .int w13, .int w14, .ref g15, .int w16, .ref g17, .int w18, .int w19, .ref g20, .int w21, .ref g22, .ref g23, .ref g24, .int w25, .int w26, .int w27, .ref g28, .ref g29, .int w30, .ref g31, .ref g32, .ref g33])), (g1, .inl (T 0, 282, .inl fa)), (g15, .inl (T 0, 10, .inl fh)), (g17, .inl (T 0, 94, .inl fk))]) rfl dX8_swapped_2 (fun H locs V => ?_)
  refine lv_iload_n hx hb dX8_swapped_5 rfl (lv_at hl 2 rfl) ?_
  refine lv_i2l (v := wh.toInt64) hx hb dX8_swapped_6 rfl ?_
  refine lv_lconst (v := (nI 0).toInt64) hx hb dX8_swapped_7 (by decide +kernel) ?_
  refine lv_lconst (v := (nI 1).toInt64) hx hb dX8_swapped_8 (by decide +kernel) ?_
  refine g_callSU (nA := 3) hC V hl.1 (m_within l D T wh (nI 0) (nI 1)) w_1023 w_1024 w_9 w_1025 (by decide +kernel) rfl ⟨(Nat.le_of_ble_eq_true rfl), (Nat.le_of_ble_eq_true rfl)⟩ [] rfl rfl (Nat.le_of_ble_eq_true rfl) dX8_swapped_9 ⟨(Nat.le_of_ble_eq_true rfl), (Nat.le_of_ble_eq_true rfl)⟩ rfl (fun r w1 H locs hQ V => ?_)
  rcases hQ with ⟨rfl, rfl, f_1, f_2⟩ | ⟨rfl, rfl, f_3⟩
  · have V : gW D T A s [(o, .inr (8, [.int (nI 0), .ref g1, .ref g2, .ref g3, .ref g4, .int (nI tp), .int w6, .int w7, .int w8, .int w9, .int w10, .int w11, .int w12, .int w13, .int w14, .ref g15, .int w16, .ref g17, .int w18, .int w19, .ref g20, .int w21, .ref g22, .ref g23, .ref g24, .int w25, .int w26, .int w27, .ref g28, .ref g29, .int w30, .ref g31, .ref g32, .ref g33])), (g1, .inl (T 0, 282, .inl fa)), (g15, .inl (T 0, 10, .inl fh)), (g17, .inl (T 0, 94, .inl fk))] H locs := V _ [] rfl rfl rfl (by decide +kernel) rfl
    show W p l e _ s m args below meth c H locs _ _ _ (F0 m 12 ls [.int (nI 1)])
    refine lv_if_ne (tgt := 18) hx hb dX8_swapped_12 (by decide) (fun _ => ?_) (fun c => absurd (show (nI 1) = 0 from c) (by decide +kernel))
    refine lv_aload_n hx hb dX8_swapped_18 rfl (lv_at hl 0 rfl) ?_
    refine lv_iload_n hx hb dX8_swapped_19 rfl (lv_at hl 1 rfl) ?_
    refine g_callVU (nA := 1) hC V hl.1 (m_refTime_f l D T o n_ (nI 0) g1 g2 g3 g4 tp w6 w7 w8 w9 w10 w11 w12 w13 w14 g15 w16 g17 w18 w19 g20 w21 g22 g23 g24 w25 w26 w27 g28 g29 w30 g31 g32 g33 fa) w_1174 w_1176 w_s58 w_9 w_1177 (by decide +kernel) rfl ⟨(Nat.le_of_ble_eq_true rfl), (Nat.le_of_ble_eq_true rfl)⟩ 0 (ci := 8) rfl rfl [0, 1] rfl rfl (Nat.le_of_ble_eq_true rfl) dX8_swapped_20 ⟨(Nat.le_of_ble_eq_true rfl), (Nat.le_of_ble_eq_true rfl)⟩ rfl (fun r w1 H locs hQ V => ?_)
    rcases hQ with ⟨jn, rfl, rfl, f_4, f_5, f_6, f_7⟩ | ⟨z_8, rfl, rfl, f_9, f_10⟩
    · have V : gW D T A s [(o, .inr (8, [.int (nI 0), .ref g1, .ref g2, .ref g3, .ref g4, .int (nI tp), .int w6, .int w7, .int w8, .int w9, .int w10, .int w11, .int w12, .int w13, .int w14, .ref g15, .int w16, .ref g17, .int w18, .int w19, .ref g20, .int w21, .ref g22, .ref g23, .ref g24, .int w25, .int w26, .int w27, .ref g28, .ref g29, .int w30, .ref g31, .ref g32, .ref g33])), (g1, .inl (T 0, 282, .inl fa)), (g15, .inl (T 0, 10, .inl fh)), (g17, .inl (T 0, 94, .inl fk))] H locs := V _ [0, 0] rfl rfl rfl (by decide +kernel) rfl
      show W p l e _ s m args below meth c H locs _ _ _ (F0 m 23 ls [.int (nI 0)])
      rw [f_6] at hl
      refine lv_istore_n (lv' := [(3, .int (nI 0)), (0, .ref o), (1, .int (nI jn)), (2, .int wh)]) hx hb dX8_swapped_23 rfl hl (by decide) rfl (fun ls hl => ?_)
      refine lv_iload_n hx hb dX8_swapped_24 rfl (lv_at hl 0 rfl) ?_
      refine lv_if_eq (tgt := 30) hx hb dX8_swapped_25 (by decide) (fun _ => ?_) (fun c => absurd (show (nI 0) = 0 by decide +kernel) c)
      refine lv_aload_n hx hb dX8_swapped_30 rfl (lv_at hl 1 rfl) ?_
      refine lv_iload_n hx hb dX8_swapped_31 rfl (lv_at hl 2 rfl) ?_
      refine lv_iconst (v := (-1)) hx hb dX8_swapped_32 (by decide +kernel) ?_
      refine lv_iconst (v := (-1)) hx hb dX8_swapped_33 (by decide +kernel) ?_
      refine lv_iconst (v := (nI 0)) hx hb dX8_swapped_34 (by decide +kernel) ?_
      refine g_callV (wr := []) (nA := 4) hC V hl.1 (m_doneBy_f l D T n o jn (-1) (nI 0) g1 g2 g3 g4 tp w6 w7 w8 w9 w10 w11 w12 w13 w14 g15 w16 g17 w18 w19 g20 w21 g22 g23 g24 w25 w26 w27 g28 g29 w30 g31 g32 g33 fa fh fk h_a (by first | assumption | omega)) w_1179 w_1181 w_s59 w_9 w_1182 (by decide +kernel) rfl ⟨(Nat.le_of_ble_eq_true rfl), (Nat.le_of_ble_eq_true rfl)⟩ 0 (ci := 8) rfl rfl [0, 1, 2, 3] [] rfl rfl rfl rfl (by decide) (Nat.le_of_ble_eq_true rfl) dX8_swapped_35 ⟨(Nat.le_of_ble_eq_true rfl), (Nat.le_of_ble_eq_true rfl)⟩ rfl (fun r w1 H locs hQ V => ?_)
      obtain ⟨z_11, bm_12, gh_13, gk_14, rfl, rfl, f_15⟩ := hQ
      have V : gW D T A s [(o, .inr (8, [.int (nI 0), .ref g1, .ref g2, .ref g3, .ref g4, .int (nI tp), .int w6, .int w7, .int w8, .int w9, .int w10, .int w11, .int w12, .int w13, .int w14, .ref g15, .int bm_12, .ref g17, .int w18, .int w19, .ref g20, .int w21, .ref g22, .ref g23, .ref g24, .int w25, .int w26, .int w27, .ref g28, .ref g29, .int w30, .ref g31, .ref g32, .ref g33])), (g1, .inl (T 0, 282, .inl fa)), (g15, .inl (T 0, 10, .inl gh_13)), (g17, .inl (T 0, 94, .inl gk_14))] H locs := V
      show W p l e _ s m args below meth c H locs _ _ _ (F0 m 38 ls [.int z_11])
      refine lv_istore (lv' := [(4, .int z_11), (3, .int (nI 0)), (0, .ref o), (1, .int (nI jn)), (2, .int wh)]) hx hb dX8_swapped_38 hl (by decide) rfl (fun ls hl => ?_)
      refine lv_iconst (v := (nI 0)) hx hb dX8_swapped_40 (by decide +kernel) ?_
      refine lv_istore (lv' := [(5, .int (nI 0)), (4, .int z_11), (3, .int (nI 0)), (0, .ref o), (1, .int (nI jn)), (2, .int wh)]) hx hb dX8_swapped_41 hl (by decide) rfl (fun ls hl => ?_)
      refine lv_iconst (v := (-1)) hx hb dX8_swapped_43 (by decide +kernel) ?_
      refine lv_istore (lv' := [(6, .int (-1)), (5, .int (nI 0)), (4, .int z_11), (3, .int (nI 0)), (0, .ref o), (1, .int (nI jn)), (2, .int wh)]) hx hb dX8_swapped_44 hl (by decide) rfl (fun ls hl => ?_)
      refine lv_iconst (v := (nI 0)) hx hb dX8_swapped_46 (by decide +kernel) ?_
      refine lv_istore (lv' := [(7, .int (nI 0)), (6, .int (-1)), (5, .int (nI 0)), (4, .int z_11), (3, .int (nI 0)), (0, .ref o), (1, .int (nI jn)), (2, .int wh)]) hx hb dX8_swapped_47 hl (by decide) rfl (fun ls hl => ?_)
      have L_16 : ∀ (fu : Nat) (ka : Nat) (x5 : Int32) (x6 : Int32) (bv : Int32) (gx : Nat → Int32) (gy : Nat → Int32), ka ≤ n → x5 = (swI n fa jn ka).1 - donF (cuI n fa (-1) jn) n → x6 = (swI n fa jn ka).2 → n - ka < fu → ∀ (H : Heap) (locs : List Loc) (ls : Array Slot), gW D T A s [(o, .inr (8, [.int (nI 0), .ref g1, .ref g2, .ref g3, .ref g4, .int (nI tp), .int w6, .int w7, .int w8, .int w9, .int w10, .int w11, .int w12, .int w13, .int w14, .ref g15, .int bv, .ref g17, .int w18, .int w19, .ref g20, .int w21, .ref g22, .ref g23, .ref g24, .int w25, .int w26, .int w27, .ref g28, .ref g29, .int w30, .ref g31, .ref g32, .ref g33])), (g1, .inl (T 0, 282, .inl fa)), (g15, .inl (T 0, 10, .inl gx)), (g17, .inl (T 0, 94, .inl gy))] H locs → lv_has ls 10 [(7, .int (nI ka)), (6, .int x6), (5, .int x5), (4, .int z_11), (3, .int (nI 0)), (0, .ref o), (1, .int (nI jn)), (2, .int wh)] → W p l e (rmD 5 0 0) s m args below meth c H locs 0 0 (MQ below (gQ D A (q_m_swapped_f T n o n_ wh w0 g1 g2 g3 g4 tp w6 w7 w8 w9 w10 w11 w12 w13 w14 g15 w16 g17 w18 w19 g20 w21 g22 g23 g24 w25 w26 w27 g28 g29 w30 g31 g32 g33 fa fh fk)) args s 0 0 A) (F0 m 49 ls []) := by
        intro fu_49
        induction fu_49 with
        | zero => intro ka x5 x6 bv gx gy hka hx5 hx6 hmu; exact absurd hmu (Nat.not_lt_zero _)
        | succ fu_49 ih_49 =>
          intro ka x5 x6 bv gx gy hka hx5 hx6 hmu_49 H locs ls V hl
          refine lv_iload hx hb dX8_swapped_49 (lv_at hl 0 rfl) ?_
          refine lv_aload_n hx hb dX8_swapped_51 rfl (lv_at hl 5 rfl) ?_
          refine g_get hC V (ci := 8) uwX8 0 rfl rfl 1 (by decide) w_913 rfl rfl dX8_swapped_52 ?_
          refine lv_iconst (v := (nI 0)) hx hb dX8_swapped_55 (by decide +kernel) ?_
          refine g_iald hC V 1 rfl (vp_in_nI (by decide) (by decide)) (v := (nI n)) (by rw [nI_clamp (by decide)]; first | rfl | exact h_a.2.1) dX8_swapped_56 ?_
          refine lv_icmp_ge (tgt := 142) hx hb dX8_swapped_57 (by decide) (fun c_17 => ?_) (fun c_17 => ?_)
          · skip
            have c_17 := b_le (by omega) (by omega) c_17
            refine lv_iload_n hx hb dX8_swapped_142 rfl (lv_at hl 7 rfl) ?_
            refine lv_if_ne (tgt := 151) hx hb dX8_swapped_143 (by decide) (fun c_18 => ?_) (fun c_18 => ?_)
            · skip
              refine lv_iload hx hb dX8_swapped_151 (lv_at hl 1 rfl) ?_
              exact g_iret (Qr := (q_m_swapped_f T n o n_ wh w0 g1 g2 g3 g4 tp w6 w7 w8 w9 w10 w11 w12 w13 w14 g15 w16 g17 w18 w19 g20 w21 g22 g23 g24 w25 w26 w27 g28 g29 w30 g31 g32 g33 fa fh fk)) hC V ⟨(Nat.le_of_ble_eq_true rfl), (Nat.le_of_ble_eq_true rfl)⟩ ⟨x6, bv, gx, gy, rfl, rfl, (by rw [hx6, show ka = n by omega]; exact sw_1 f_1 f_2 f_7 f_6 (by omega) c_18)⟩ dX8_swapped_153
            · skip
              refine lv_iload hx hb dX8_swapped_146 (lv_at hl 2 rfl) ?_
              refine lv_goto (tgt := 153) hx hb dX8_swapped_148 (by decide) ?_
              exact g_iret (Qr := (q_m_swapped_f T n o n_ wh w0 g1 g2 g3 g4 tp w6 w7 w8 w9 w10 w11 w12 w13 w14 g15 w16 g17 w18 w19 g20 w21 g22 g23 g24 w25 w26 w27 g28 g29 w30 g31 g32 g33 fa fh fk)) hC V ⟨(Nat.le_of_ble_eq_true rfl), (Nat.le_of_ble_eq_true rfl)⟩ ⟨x5, bv, gx, gy, rfl, rfl, (by rw [hx5, show ka = n by omega]; exact sw_0 f_1 f_2 f_7 f_6 (by omega) c_18)⟩ dX8_swapped_153
          · skip
            have c_17 := b_nle (by omega) (by omega) c_17
            refine lv_iload hx hb dX8_swapped_60 (lv_at hl 0 rfl) ?_
            refine lv_iconst (v := (nI 1)) hx hb dX8_swapped_62 (by decide +kernel) ?_
            refine lv_iadd hx hb dX8_swapped_63 ?_
            refine g_vi (y := (nI (ka + 1))) (nI_add _ _) ?_
            refine lv_istore (lv' := [(8, .int (nI (ka + 1))), (7, .int (nI ka)), (6, .int x6), (5, .int x5), (4, .int z_11), (3, .int (nI 0)), (0, .ref o), (1, .int (nI jn)), (2, .int wh)]) hx hb dX8_swapped_64 hl (by decide) rfl (fun ls hl => ?_)
            have L_19 : ∀ (fu : Nat) (kb : Nat) (y5 : Int32) (y6 : Int32) (bw : Int32) (gx2 : Nat → Int32) (gy2 : Nat → Int32), kb ≤ n → ka + 1 ≤ kb → y5 = (swJ n fa jn ka (swI n fa jn ka) (kb - (ka + 1))).1 - donF (cuI n fa (-1) jn) n → y6 = (swJ n fa jn ka (swI n fa jn ka) (kb - (ka + 1))).2 → n - kb < fu → ∀ (H : Heap) (locs : List Loc) (ls : Array Slot), gW D T A s [(o, .inr (8, [.int (nI 0), .ref g1, .ref g2, .ref g3, .ref g4, .int (nI tp), .int w6, .int w7, .int w8, .int w9, .int w10, .int w11, .int w12, .int w13, .int w14, .ref g15, .int bw, .ref g17, .int w18, .int w19, .ref g20, .int w21, .ref g22, .ref g23, .ref g24, .int w25, .int w26, .int w27, .ref g28, .ref g29, .int w30, .ref g31, .ref g32, .ref g33])), (g1, .inl (T 0, 282, .inl fa)), (g15, .inl (T 0, 10, .inl gx2)), (g17, .inl (T 0, 94, .inl gy2))] H locs → lv_has ls 10 [(8, .int (nI kb)), (7, .int (nI ka)), (6, .int y6), (5, .int y5), (4, .int z_11), (3, .int (nI 0)), (0, .ref o), (1, .int (nI jn)), (2, .int wh)] → W p l e (rmD 5 0 0) s m args below meth c H locs 0 0 (MQ below (gQ D A (q_m_swapped_f T n o n_ wh w0 g1 g2 g3 g4 tp w6 w7 w8 w9 w10 w11 w12 w13 w14 g15 w16 g17 w18 w19 g20 w21 g22 g23 g24 w25 w26 w27 g28 g29 w30 g31 g32 g33 fa fh fk)) args s 0 0 A) (F0 m 66 ls []) := by
              intro fu_66
              induction fu_66 with
              | zero => intro kb y5 y6 bw gx2 gy2 hkb hab hy5 hy6 hmu; exact absurd hmu (Nat.not_lt_zero _)
              | succ fu_66 ih_66 =>
                intro kb y5 y6 bw gx2 gy2 hkb hab hy5 hy6 hmu_66 H locs ls V hl
                refine lv_iload hx hb dX8_swapped_66 (lv_at hl 0 rfl) ?_
                refine lv_aload_n hx hb dX8_swapped_68 rfl (lv_at hl 6 rfl) ?_
                refine g_get hC V (ci := 8) uwX8 0 rfl rfl 1 (by decide) w_913 rfl rfl dX8_swapped_69 ?_
                refine lv_iconst (v := (nI 0)) hx hb dX8_swapped_72 (by decide +kernel) ?_
                refine g_iald hC V 1 rfl (vp_in_nI (by decide) (by decide)) (v := (nI n)) (by rw [nI_clamp (by decide)]; first | rfl | exact h_a.2.1) dX8_swapped_73 ?_
                refine lv_icmp_ge (tgt := 136) hx hb dX8_swapped_74 (by decide) (fun c_20 => ?_) (fun c_20 => ?_)
                · skip
                  have c_20 := b_le (by omega) (by omega) c_20
                  refine lv_iinc (v := (nI (ka + 1))) (lv' := [(7, .int (nI (ka + 1))), (8, .int (nI kb)), (6, .int y6), (5, .int y5), (4, .int z_11), (3, .int (nI 0)), (0, .ref o), (1, .int (nI jn)), (2, .int wh)]) hx hb dX8_swapped_136 hl (k := 1) rfl (nI_1 _) (by decide) rfl (fun ls hl => ?_)
                  refine lv_goto (tgt := 49) hx hb dX8_swapped_139 (by decide) ?_
                  exact ih_49 (ka + 1) y5 y6 bw gx2 gy2 (by omega) (by rw [hy5, show kb = n by omega]; rfl) (by rw [hy6, show kb = n by omega]; rfl) (by omega) _ _ _ V (lv_sub hl [0, 2, 3, 4, 5, 6, 7, 8] rfl)
                · skip
                  have c_20 := b_nle (by omega) (by omega) c_20
                  refine lv_aload_n hx hb dX8_swapped_77 rfl (lv_at hl 6 rfl) ?_
                  refine lv_iload hx hb dX8_swapped_78 (lv_at hl 1 rfl) ?_
                  refine lv_iload hx hb dX8_swapped_80 (lv_at hl 0 rfl) ?_
                  refine g_callVU (nA := 2) hC V hl.1 (m_swaps_f l D T n o ka kb (nI 0) g1 g2 g3 g4 tp w6 w7 w8 w9 w10 w11 w12 w13 w14 g15 bw g17 w18 w19 g20 w21 g22 g23 g24 w25 w26 w27 g28 g29 w30 g31 g32 g33 fa h_a (by first | assumption | omega) (by first | assumption | omega)) w_1356 w_1358 w_s80 w_9 w_1359 (by decide +kernel) rfl ⟨(Nat.le_of_ble_eq_true rfl), (Nat.le_of_ble_eq_true rfl)⟩ 0 (ci := 8) rfl rfl [0, 1] rfl rfl (Nat.le_of_ble_eq_true rfl) dX8_swapped_82 ⟨(Nat.le_of_ble_eq_true rfl), (Nat.le_of_ble_eq_true rfl)⟩ rfl (fun r w1 H locs hQ V => ?_)
                  obtain ⟨ga_21, rfl, rfl, f_22, f_23⟩ := hQ
                  have V : gW D T A s [(o, .inr (8, [.int (nI 0), .ref g1, .ref g2, .ref g3, .ref g4, .int (nI tp), .int w6, .int w7, .int w8, .int w9, .int w10, .int w11, .int w12, .int w13, .int w14, .ref g15, .int bw, .ref g17, .int w18, .int w19, .ref g20, .int w21, .ref g22, .ref g23, .ref g24, .int w25, .int w26, .int w27, .ref g28, .ref g29, .int w30, .ref g31, .ref g32, .ref g33])), (g1, .inl (T 0, 282, .inl ga_21)), (g15, .inl (T 0, 10, .inl gx2)), (g17, .inl (T 0, 94, .inl gy2))] H locs := V _ [0, 0] rfl rfl rfl (by decide +kernel) rfl
                  show W p l e _ s m args below meth c H locs _ _ _ (F0 m 85 ls [])
                  have hga_21 : MS n fa ga_21 := ms_tr (by assumption) f_22
                  refine lv_aload_n hx hb dX8_swapped_85 rfl (lv_at hl 6 rfl) ?_
                  refine lv_iload_n hx hb dX8_swapped_86 rfl (lv_at hl 7 rfl) ?_
                  refine lv_iconst (v := (-1)) hx hb dX8_swapped_87 (by decide +kernel) ?_
                  refine lv_iconst (v := (-1)) hx hb dX8_swapped_88 (by decide +kernel) ?_
                  refine lv_iconst (v := (nI 0)) hx hb dX8_swapped_89 (by decide +kernel) ?_
                  refine g_callV (wr := []) (nA := 4) hC V hl.1 (m_doneBy_f l D T n o jn (-1) (nI 0) g1 g2 g3 g4 tp w6 w7 w8 w9 w10 w11 w12 w13 w14 g15 bw g17 w18 w19 g20 w21 g22 g23 g24 w25 w26 w27 g28 g29 w30 g31 g32 g33 ga_21 gx2 gy2 hga_21.1 (by first | assumption | omega)) w_1179 w_1181 w_s59 w_9 w_1182 (by decide +kernel) rfl ⟨(Nat.le_of_ble_eq_true rfl), (Nat.le_of_ble_eq_true rfl)⟩ 0 (ci := 8) rfl rfl [0, 1, 2, 3] [] rfl rfl rfl rfl (by decide) (Nat.le_of_ble_eq_true rfl) dX8_swapped_90 ⟨(Nat.le_of_ble_eq_true rfl), (Nat.le_of_ble_eq_true rfl)⟩ rfl (fun r w1 H locs hQ V => ?_)
                  obtain ⟨z_24, bm_25, gh_26, gk_27, rfl, rfl, f_28⟩ := hQ
                  have V : gW D T A s [(o, .inr (8, [.int (nI 0), .ref g1, .ref g2, .ref g3, .ref g4, .int (nI tp), .int w6, .int w7, .int w8, .int w9, .int w10, .int w11, .int w12, .int w13, .int w14, .ref g15, .int bm_25, .ref g17, .int w18, .int w19, .ref g20, .int w21, .ref g22, .ref g23, .ref g24, .int w25, .int w26, .int w27, .ref g28, .ref g29, .int w30, .ref g31, .ref g32, .ref g33])), (g1, .inl (T 0, 282, .inl ga_21)), (g15, .inl (T 0, 10, .inl gh_26)), (g17, .inl (T 0, 94, .inl gk_27))] H locs := V
                  show W p l e _ s m args below meth c H locs _ _ _ (F0 m 93 ls [.int z_24])
                  have hsd : z_24 = swD n fa jn ka kb := by rw [f_28, f_23]; rfl
                  refine lv_iload hx hb dX8_swapped_93 (lv_at hl 4 rfl) ?_
                  refine lv_isub hx hb dX8_swapped_95 ?_
                  refine lv_istore (lv' := [(9, .int (z_24 - z_11)), (8, .int (nI kb)), (7, .int (nI ka)), (6, .int y6), (5, .int y5), (4, .int z_11), (3, .int (nI 0)), (0, .ref o), (1, .int (nI jn)), (2, .int wh)]) hx hb dX8_swapped_96 hl (by decide) rfl (fun ls hl => ?_)
                  refine lv_aload_n hx hb dX8_swapped_98 rfl (lv_at hl 7 rfl) ?_
                  refine lv_iload hx hb dX8_swapped_99 (lv_at hl 2 rfl) ?_
                  refine lv_iload hx hb dX8_swapped_101 (lv_at hl 1 rfl) ?_
                  refine g_callVU (nA := 2) hC V hl.1 (m_swaps_f l D T n o ka kb (nI 0) g1 g2 g3 g4 tp w6 w7 w8 w9 w10 w11 w12 w13 w14 g15 bm_25 g17 w18 w19 g20 w21 g22 g23 g24 w25 w26 w27 g28 g29 w30 g31 g32 g33 ga_21 hga_21.1 (by first | assumption | omega) (by first | assumption | omega)) w_1356 w_1358 w_s80 w_9 w_1359 (by decide +kernel) rfl ⟨(Nat.le_of_ble_eq_true rfl), (Nat.le_of_ble_eq_true rfl)⟩ 0 (ci := 8) rfl rfl [0, 1] rfl rfl (Nat.le_of_ble_eq_true rfl) dX8_swapped_103 ⟨(Nat.le_of_ble_eq_true rfl), (Nat.le_of_ble_eq_true rfl)⟩ rfl (fun r w1 H locs hQ V => ?_)
                  obtain ⟨ga_29, rfl, rfl, f_30, f_31⟩ := hQ
                  have V : gW D T A s [(o, .inr (8, [.int (nI 0), .ref g1, .ref g2, .ref g3, .ref g4, .int (nI tp), .int w6, .int w7, .int w8, .int w9, .int w10, .int w11, .int w12, .int w13, .int w14, .ref g15, .int bm_25, .ref g17, .int w18, .int w19, .ref g20, .int w21, .ref g22, .ref g23, .ref g24, .int w25, .int w26, .int w27, .ref g28, .ref g29, .int w30, .ref g31, .ref g32, .ref g33])), (g1, .inl (T 0, 282, .inl ga_29)), (g15, .inl (T 0, 10, .inl gh_26)), (g17, .inl (T 0, 94, .inl gk_27))] H locs := V _ [0, 0] rfl rfl rfl (by decide +kernel) rfl
                  show W p l e _ s m args below meth c H locs _ _ _ (F0 m 106 ls [])
                  have ega_29 : ga_29 = fa := by rw [f_31, f_23]; exact swF_2 (by omega)
                  rw [ega_29] at V
                  refine lv_iload hx hb dX8_swapped_106 (lv_at hl 0 rfl) ?_
                  refine lv_iload hx hb dX8_swapped_108 (lv_at hl 4 rfl) ?_
                  refine lv_icmp_gt (tgt := 116) hx hb dX8_swapped_110 (by decide) (fun c_32 => ?_) (fun c_32 => ?_)
                  · skip
                    have hcq := bp_cmp (x := (swJ n fa jn ka (swI n fa jn ka) (kb - (ka + 1))).1) (y := swD n fa jn ka kb) (z := donF (cuI n fa (-1) jn) n) (sj_bd hn10 (si_bd hn10 _) _) (don_12 _ hn10) (don_12 _ hn10)
                    rw [← hy5, ← hsd, ← f_15] at hcq
                    have hsj := sj_y (n := n) (k := jn) (a := ka) (b := kb) (f := fa) (s0 := swI n fa jn ka) (by omega) (by rw [← hsd]; exact hcq.mp c_32)
                    refine lv_iload hx hb dX8_swapped_116 (lv_at hl 0 rfl) ?_
                    refine lv_istore (lv' := [(5, .int (z_24 - z_11)), (9, .int (z_24 - z_11)), (8, .int (nI kb)), (7, .int (nI ka)), (6, .int y6), (4, .int z_11), (3, .int (nI 0)), (0, .ref o), (1, .int (nI jn)), (2, .int wh)]) hx hb dX8_swapped_118 hl (by decide) rfl (fun ls hl => ?_)
                    refine lv_bipush (v := (nI 10)) hx hb dX8_swapped_120 (by decide +kernel) ?_
                    refine lv_iload hx hb dX8_swapped_122 (lv_at hl 3 rfl) ?_
                    refine lv_imul hx hb dX8_swapped_124 ?_
                    refine g_vi (y := (nI (10 * ka))) (pk_mul _ _) ?_
                    refine lv_iload hx hb dX8_swapped_125 (lv_at hl 2 rfl) ?_
                    refine lv_iadd hx hb dX8_swapped_127 ?_
                    refine g_vi (y := (nI ((10 * ka) + kb))) (nI_add _ _) ?_
                    refine lv_istore (lv' := [(6, .int (nI ((10 * ka) + kb))), (5, .int (z_24 - z_11)), (9, .int (z_24 - z_11)), (8, .int (nI kb)), (7, .int (nI ka)), (4, .int z_11), (3, .int (nI 0)), (0, .ref o), (1, .int (nI jn)), (2, .int wh)]) hx hb dX8_swapped_128 hl (by decide) rfl (fun ls hl => ?_)
                    refine lv_iinc (v := (nI (kb + 1))) (lv' := [(8, .int (nI (kb + 1))), (6, .int (nI ((10 * ka) + kb))), (5, .int (z_24 - z_11)), (9, .int (z_24 - z_11)), (7, .int (nI ka)), (4, .int z_11), (3, .int (nI 0)), (0, .ref o), (1, .int (nI jn)), (2, .int wh)]) hx hb dX8_swapped_130 hl (k := 3) rfl (nI_1 _) (by decide) rfl (fun ls hl => ?_)
                    refine lv_goto (tgt := 66) hx hb dX8_swapped_133 (by decide) ?_
                    exact ih_66 (kb + 1) (z_24 - z_11) (nI ((10 * ka) + kb)) bm_25 gh_26 gk_27 (by omega) (by omega) (by rw [hsj, ← f_15, hsd]) (by rw [hsj]) (by omega) _ _ _ V (lv_sub hl [0, 4, 1, 2, 5, 6, 7, 8, 9] rfl)
                  · skip
                    have hcq := bp_cmp (x := (swJ n fa jn ka (swI n fa jn ka) (kb - (ka + 1))).1) (y := swD n fa jn ka kb) (z := donF (cuI n fa (-1) jn) n) (sj_bd hn10 (si_bd hn10 _) _) (don_12 _ hn10) (don_12 _ hn10)
                    rw [← hy5, ← hsd, ← f_15] at hcq
                    have hsj := sj_n (n := n) (k := jn) (a := ka) (b := kb) (f := fa) (s0 := swI n fa jn ka) (by omega) (by rw [← hsd]; exact fun q => c_32 (hcq.mpr q))
                    refine lv_goto (tgt := 130) hx hb dX8_swapped_113 (by decide) ?_
                    refine lv_iinc (v := (nI (kb + 1))) (lv' := [(8, .int (nI (kb + 1))), (9, .int (z_24 - z_11)), (7, .int (nI ka)), (6, .int y6), (5, .int y5), (4, .int z_11), (3, .int (nI 0)), (0, .ref o), (1, .int (nI jn)), (2, .int wh)]) hx hb dX8_swapped_130 hl (k := 1) rfl (nI_1 _) (by decide) rfl (fun ls hl => ?_)
                    refine lv_goto (tgt := 66) hx hb dX8_swapped_133 (by decide) ?_
                    exact ih_66 (kb + 1) y5 y6 bm_25 gh_26 gk_27 (by omega) (by omega) (by rw [hsj]; exact hy5) (by rw [hsj]; exact hy6) (by omega) _ _ _ V (lv_sub hl [0, 2, 3, 4, 5, 6, 7, 8, 9] rfl)
            exact L_19 _ (ka + 1) x5 x6 bv gx gy (by omega) (by omega) (by rw [hx5, show ka + 1 - (ka + 1) = 0 by omega]; rfl) (by rw [hx6, show ka + 1 - (ka + 1) = 0 by omega]; rfl) (Nat.lt_succ_self _) _ _ _ V (lv_sub hl [0, 1, 2, 3, 4, 5, 6, 7, 8] rfl)
      exact L_16 _ 0 (nI 0) (-1) bm_12 gh_13 gk_14 (by omega) (sub_self0 _) rfl (Nat.lt_succ_self _) _ _ _ V (lv_sub hl [0, 1, 2, 3, 4, 5, 6, 7] rfl)
    · have V : gW D T A s [(o, .inr (8, [.int (nI 0), .ref g1, .ref g2, .ref g3, .ref g4, .int (nI tp), .int w6, .int w7, .int w8, .int w9, .int w10, .int w11, .int w12, .int w13, .int w14, .ref g15, .int w16, .ref g17, .int w18, .int w19, .ref g20, .int w21, .ref g22, .ref g23, .ref g24, .int w25, .int w26, .int w27, .ref g28, .ref g29, .int w30, .ref g31, .ref g32, .ref g33])), (g1, .inl (T 0, 282, .inl fa)), (g15, .inl (T 0, 10, .inl fh)), (g17, .inl (T 0, 94, .inl fk))] H locs := V _ [0, 0] rfl rfl rfl (by decide +kernel) rfl
      show W p l e _ s m args below meth c H locs _ _ _ (F0 m 23 ls [.int z_8])
      refine lv_istore_n (lv' := [(3, .int z_8), (0, .ref o), (1, .int n_), (2, .int wh)]) hx hb dX8_swapped_23 rfl hl (by decide) rfl (fun ls hl => ?_)
      refine lv_iload_n hx hb dX8_swapped_24 rfl (lv_at hl 0 rfl) ?_
      refine lv_if_eq (tgt := 30) hx hb dX8_swapped_25 (by decide) (fun c_33 => ?_) (fun c_33 => ?_)
      · skip
        exact (absurd c_33 (by assumption) : False).elim
      · skip
        refine lv_iload_n hx hb dX8_swapped_28 rfl (lv_at hl 0 rfl) ?_
        exact g_iret (Qr := (q_m_swapped_f T n o n_ wh w0 g1 g2 g3 g4 tp w6 w7 w8 w9 w10 w11 w12 w13 w14 g15 w16 g17 w18 w19 g20 w21 g22 g23 g24 w25 w26 w27 g28 g29 w30 g31 g32 g33 fa fh fk)) hC V ⟨(Nat.le_of_ble_eq_true rfl), (Nat.le_of_ble_eq_true rfl)⟩ ⟨z_8, w16, fh, fk, rfl, rfl, (sw_n f_1 f_2 f_10 f_9)⟩ dX8_swapped_29
  · have V : gW D T A s [(o, .inr (8, [.int (nI 0), .ref g1, .ref g2, .ref g3, .ref g4, .int (nI tp), .int w6, .int w7, .int w8, .int w9, .int w10, .int w11, .int w12, .int w13, .int w14, .ref g15, .int w16, .ref g17, .int w18, .int w19, .ref g20, .int w21, .ref g22, .ref g23, .ref g24, .int w25, .int w26, .int w27, .ref g28, .ref g29, .int w30, .ref g31, .ref g32, .ref g33])), (g1, .inl (T 0, 282, .inl fa)), (g15, .inl (T 0, 10, .inl fh)), (g17, .inl (T 0, 94, .inl fk))] H locs := V _ [] rfl rfl rfl (by decide +kernel) rfl
    show W p l e _ s m args below meth c H locs _ _ _ (F0 m 12 ls [.int (nI 0)])
    refine lv_if_ne (tgt := 18) hx hb dX8_swapped_12 (by decide) (fun c => absurd (show (nI 0) = 0 by decide +kernel) c) (fun _ => ?_)
    refine lv_bipush (v := (-2)) hx hb dX8_swapped_15 (by decide +kernel) ?_
    exact g_iret (Qr := (q_m_swapped_f T n o n_ wh w0 g1 g2 g3 g4 tp w6 w7 w8 w9 w10 w11 w12 w13 w14 g15 w16 g17 w18 w19 g20 w21 g22 g23 g24 w25 w26 w27 g28 g29 w30 g31 g32 g33 fa fh fk)) hC V ⟨(Nat.le_of_ble_eq_true rfl), (Nat.le_of_ble_eq_true rfl)⟩ ⟨(-2), w16, fh, fk, rfl, rfl, (sw_o f_3)⟩ dX8_swapped_17
