def q_m_lives_f (T : Nat → ClassId) (n : Nat) (o : Nat) (cn : Nat) (lz : Int32) (w0 : Int32) (g1 : Nat) (g2 : Nat) (g3 : Nat) (g4 : Nat) (tp : Nat) (w6 : Int32) (w7 : Int32) (w8 : Int32) (w9 : Int32) (w10 : Int32) (w11 : Int32) (w12 : Int32) (w13 : Int32) (w14 : Int32) (g15 : Nat) (w16 : Int32) (g17 : Nat) (w18 : Int32) (w19 : Int32) (g20 : Nat) (w21 : Int32) (g22 : Nat) (g23 : Nat) (g24 : Nat) (w25 : Int32) (w26 : Int32) (w27 : Int32) (g28 : Nat) (g29 : Nat) (w30 : Int32) (g31 : Nat) (g32 : Nat) (g33 : Nat) (fa : Nat → Int32) (fh : Nat → Int32) : Option Value → va_W → Prop := fun rr ww => (∃ (z : Int32) (bm : Int32) (ga : Nat → Int32) (gh : Nat → Int32), rr = some (.int z) ∧ ww = [(o, .inr (8, [.int w0, .ref g1, .ref g2, .ref g3, .ref g4, .int (nI tp), .int w6, .int w7, .int w8, .int w9, .int w10, .int w11, .int w12, .int w13, .int w14, .ref g15, .int bm, .ref g17, .int w18, .int w19, .ref g20, .int w21, .ref g22, .ref g23, .ref g24, .int w25, .int w26, .int w27, .ref g28, .ref g29, .int w30, .ref g31, .ref g32, .ref g33])), (g1, .inl (T 0, 282, .inl ga)), (g15, .inl (T 0, 10, .inl gh))] ∧ MS n fa ga ∧ z = cuC n fa lz cn ∧ ga = cuI n fa lz cn)
set_option maxHeartbeats 4000000 in
set_option maxRecDepth 100000 in
theorem m_lives_f (l : Launch) (D : va_G) (T : Nat → ClassId) (n : Nat) (o : Nat) (cn : Nat) (lz : Int32) (w0 : Int32) (g1 : Nat) (g2 : Nat) (g3 : Nat) (g4 : Nat) (tp : Nat) (w6 : Int32) (w7 : Int32) (w8 : Int32) (w9 : Int32) (w10 : Int32) (w11 : Int32) (w12 : Int32) (w13 : Int32) (w14 : Int32) (g15 : Nat) (w16 : Int32) (g17 : Nat) (w18 : Int32) (w19 : Int32) (g20 : Nat) (w21 : Int32) (g22 : Nat) (g23 : Nat) (g24 : Nat) (w25 : Int32) (w26 : Int32) (w27 : Int32) (g28 : Nat) (g29 : Nat) (w30 : Int32) (g31 : Nat) (g32 : Nat) (g33 : Nat) (fa : Nat → Int32) (fh : Nat → Int32) (h_a : MI n fa) (h_c : cn ≤ 1000) : Ct l yX8_lives cX8_lives 11 (some .int) 3 0 0 D T [.ref o, .int (nI cn), .int lz, .int (-1), .int (nI 0)] [(o, .inr (8, [.int w0, .ref g1, .ref g2, .ref g3, .ref g4, .int (nI tp), .int w6, .int w7, .int w8, .int w9, .int w10, .int w11, .int w12, .int w13, .int w14, .ref g15, .int w16, .ref g17, .int w18, .int w19, .ref g20, .int w21, .ref g22, .ref g23, .ref g24, .int w25, .int w26, .int w27, .ref g28, .ref g29, .int w30, .ref g31, .ref g32, .ref g33])), (g1, .inl (T 0, 282, .inl fa)), (g15, .inl (T 0, 10, .inl fh))] (q_m_lives_f T n o cn lz w0 g1 g2 g3 g4 tp w6 w7 w8 w9 w10 w11 w12 w13 w14 g15 w16 g17 w18 w19 g20 w21 g22 g23 g24 w25 w26 w27 g28 g29 w30 g31 g32 g33 fa fh) := by
  refine Ct.of (cc := cX8_lives) (maxL := 11) (ret := (some .int)) (by decide) (Nat.le_of_ble_eq_true rfl) ?_
  intro p e s m args below meth c A ls hC hnm V hl
  obtain ⟨hx, hb, hr, hml, hown, hts, hlocks⟩ := id hC
  generalize hH : s.heap = H at V ⊢
  clear hH
  have hl : lv_has ls 11 [(0, .ref o), (1, .int (nI cn)), (2, .int lz), (3, .int (-1)), (4, .int (nI 0))] := hl
  generalize hlo : ([] : List Loc) = locs at V ⊢
  clear hlo
  have ms0 := ms_rf h_a
  have hn10 := h_a.1
  refine lv_iconst (v := (nI 0)) hx hb dX8_lives_0 (by decide +kernel) ?_
  refine lv_istore (lv' := [(5, .int (nI 0)), (0, .ref o), (1, .int (nI cn)), (2, .int lz), (3, .int (-1)), (4, .int (nI 0))]) hx hb dX8_lives_1 hl (by decide) rfl (fun ls hl => ?_)
  refine lv_iconst (v := (nI 0)) hx hb dX8_lives_3 (by decide +kernel) ?_
  refine lv_istore (lv' := [(6, .int (nI 0)), (5, .int (nI 0)), (0, .ref o), (1, .int (nI cn)), (2, .int lz), (3, .int (-1)), (4, .int (nI 0))]) hx hb dX8_lives_4 hl (by decide) rfl (fun ls hl => ?_)
  have L_1 : ∀ (fu : Nat) (k6 : Nat) (x5 : Int32) (bv : Int32) (th : Nat → Int32) (f6 : Nat → Int32), k6 ≤ cn → MS n fa f6 → f6 = cuI n fa lz k6 → x5 = cuC n fa lz k6 → cn - k6 < fu → ∀ (H : Heap) (locs : List Loc) (ls : Array Slot), gW D T A s [(o, .inr (8, [.int w0, .ref g1, .ref g2, .ref g3, .ref g4, .int (nI tp), .int w6, .int w7, .int w8, .int w9, .int w10, .int w11, .int w12, .int w13, .int w14, .ref g15, .int bv, .ref g17, .int w18, .int w19, .ref g20, .int w21, .ref g22, .ref g23, .ref g24, .int w25, .int w26, .int w27, .ref g28, .ref g29, .int w30, .ref g31, .ref g32, .ref g33])), (g1, .inl (T 0, 282, .inl f6)), (g15, .inl (T 0, 10, .inl th))] H locs → lv_has ls 11 [(6, .int (nI k6)), (5, .int x5), (0, .ref o), (1, .int (nI cn)), (2, .int lz), (3, .int (-1)), (4, .int (nI 0))] → W p l e (rmD 3 0 0) s m args below meth c H locs 0 0 (MQ below (gQ D A (q_m_lives_f T n o cn lz w0 g1 g2 g3 g4 tp w6 w7 w8 w9 w10 w11 w12 w13 w14 g15 w16 g17 w18 w19 g20 w21 g22 g23 g24 w25 w26 w27 g28 g29 w30 g31 g32 g33 fa fh)) args s 0 0 A) (F0 m 6 ls []) := by
    intro fu_6
    induction fu_6 with
    | zero => intro k6 x5 bv th f6 hk6 hf6 hI hx5 hmu; exact absurd hmu (Nat.not_lt_zero _)
    | succ fu_6 ih_6 =>
      intro k6 x5 bv th f6 hk6 hf6 hI hx5 hmu_6 H locs ls V hl
      refine lv_iload hx hb dX8_lives_6 (lv_at hl 0 rfl) ?_
      refine lv_iload_n hx hb dX8_lives_8 rfl (lv_at hl 3 rfl) ?_
      refine lv_icmp_ge (tgt := 198) hx hb dX8_lives_9 (by decide) (fun c_2 => ?_) (fun c_2 => ?_)
      · skip
        have c_2 := b_le (by omega) (by omega) c_2
        refine lv_iload hx hb dX8_lives_198 (lv_at hl 1 rfl) ?_
        exact g_iret (Qr := (q_m_lives_f T n o cn lz w0 g1 g2 g3 g4 tp w6 w7 w8 w9 w10 w11 w12 w13 w14 g15 w16 g17 w18 w19 g20 w21 g22 g23 g24 w25 w26 w27 g28 g29 w30 g31 g32 g33 fa fh)) hC V ⟨(Nat.le_of_ble_eq_true rfl), (Nat.le_of_ble_eq_true rfl)⟩ ⟨x5, bv, f6, th, rfl, rfl, (by assumption), (by rw [hx5]; congr 1; omega), (by rw [hI]; congr 1; omega)⟩ dX8_lives_200
      · skip
        have c_2 := b_nle (by omega) (by omega) c_2
        refine lv_iconst (v := (nI 0)) hx hb dX8_lives_12 (by decide +kernel) ?_
        refine lv_istore (lv' := [(7, .int (nI 0)), (6, .int (nI k6)), (5, .int x5), (0, .ref o), (1, .int (nI cn)), (2, .int lz), (3, .int (-1)), (4, .int (nI 0))]) hx hb dX8_lives_13 hl (by decide) rfl (fun ls hl => ?_)
        refine lv_iconst (v := (nI 0)) hx hb dX8_lives_15 (by decide +kernel) ?_
        refine lv_istore (lv' := [(8, .int (nI 0)), (7, .int (nI 0)), (6, .int (nI k6)), (5, .int x5), (0, .ref o), (1, .int (nI cn)), (2, .int lz), (3, .int (-1)), (4, .int (nI 0))]) hx hb dX8_lives_16 hl (by decide) rfl (fun ls hl => ?_)
        refine lv_iconst (v := (nI 0)) hx hb dX8_lives_18 (by decide +kernel) ?_
        refine lv_istore (lv' := [(9, .int (nI 0)), (8, .int (nI 0)), (7, .int (nI 0)), (6, .int (nI k6)), (5, .int x5), (0, .ref o), (1, .int (nI cn)), (2, .int lz), (3, .int (-1)), (4, .int (nI 0))]) hx hb dX8_lives_19 hl (by decide) rfl (fun ls hl => ?_)
        have L_3 : ∀ (fu : Nat) (k21 : Nat) (pv : Int32) (sv : Int32), k21 ≤ n → sv = cuSk f6 lz k21 → pv = cuPl f6 lz k21 → n - k21 < fu → ∀ (H : Heap) (locs : List Loc) (ls : Array Slot), gW D T A s [(o, .inr (8, [.int w0, .ref g1, .ref g2, .ref g3, .ref g4, .int (nI tp), .int w6, .int w7, .int w8, .int w9, .int w10, .int w11, .int w12, .int w13, .int w14, .ref g15, .int bv, .ref g17, .int w18, .int w19, .ref g20, .int w21, .ref g22, .ref g23, .ref g24, .int w25, .int w26, .int w27, .ref g28, .ref g29, .int w30, .ref g31, .ref g32, .ref g33])), (g1, .inl (T 0, 282, .inl f6)), (g15, .inl (T 0, 10, .inl th))] H locs → lv_has ls 11 [(9, .int (nI k21)), (8, .int sv), (7, .int pv), (6, .int (nI k6)), (5, .int x5), (0, .ref o), (1, .int (nI cn)), (2, .int lz), (3, .int (-1)), (4, .int (nI 0))] → W p l e (rmD 3 0 0) s m args below meth c H locs 0 0 (MQ below (gQ D A (q_m_lives_f T n o cn lz w0 g1 g2 g3 g4 tp w6 w7 w8 w9 w10 w11 w12 w13 w14 g15 w16 g17 w18 w19 g20 w21 g22 g23 g24 w25 w26 w27 g28 g29 w30 g31 g32 g33 fa fh)) args s 0 0 A) (F0 m 21 ls []) := by
          intro fu_21
          induction fu_21 with
          | zero => intro k21 pv sv hk21 hsv hpv hmu; exact absurd hmu (Nat.not_lt_zero _)
          | succ fu_21 ih_21 =>
            intro k21 pv sv hk21 hsv hpv hmu_21 H locs ls V hl
            refine lv_iload hx hb dX8_lives_21 (lv_at hl 0 rfl) ?_
            refine lv_aload_n hx hb dX8_lives_23 rfl (lv_at hl 5 rfl) ?_
            refine g_get hC V (ci := 8) uwX8 0 rfl rfl 1 (by decide) w_913 rfl rfl dX8_lives_24 ?_
            refine lv_iconst (v := (nI 0)) hx hb dX8_lives_27 (by decide +kernel) ?_
            refine g_iald hC V 1 rfl (vp_in_nI (by decide) (by decide)) (v := (nI n)) (by rw [nI_clamp (by decide)]; first | rfl | exact h_a.2.1 | exact hf6.1.2.1) dX8_lives_28 ?_
            refine lv_icmp_ge (tgt := 131) hx hb dX8_lives_29 (by decide) (fun c_4 => ?_) (fun c_4 => ?_)
            · skip
              have c_4 := b_le (by omega) (by omega) c_4
              have hsn : sv = cuSk f6 lz n := by rw [hsv]; congr 1; omega
              have hpn : pv = cuPl f6 lz n := by rw [hpv]; congr 1; omega
              refine lv_iload_n hx hb dX8_lives_131 rfl (lv_at hl 8 rfl) ?_
              refine lv_iconst (v := (-1)) hx hb dX8_lives_132 (by decide +kernel) ?_
              refine lv_icmp_eq (tgt := 164) hx hb dX8_lives_133 (by decide) (fun _ => ?_) (fun c => absurd (show (-1 : Int32) = (-1 : Int32) by first | rfl | decide +kernel) c)
              refine lv_iconst (v := (nI 0)) hx hb dX8_lives_164 (by decide +kernel) ?_
              refine lv_istore (lv' := [(9, .int (nI 0)), (8, .int sv), (7, .int pv), (6, .int (nI k6)), (5, .int x5), (0, .ref o), (1, .int (nI cn)), (2, .int lz), (3, .int (-1)), (4, .int (nI 0))]) hx hb dX8_lives_165 hl (by decide) rfl (fun ls hl => ?_)
              refine lv_iload hx hb dX8_lives_167 (lv_at hl 4 rfl) ?_
              refine lv_aload_n hx hb dX8_lives_169 rfl (lv_at hl 5 rfl) ?_
              refine lv_iload hx hb dX8_lives_170 (lv_at hl 2 rfl) ?_
              refine lv_iload hx hb dX8_lives_172 (lv_at hl 1 rfl) ?_
              refine lv_iload_n hx hb dX8_lives_174 rfl (lv_at hl 8 rfl) ?_
              refine lv_iload hx hb dX8_lives_175 (lv_at hl 0 rfl) ?_
              refine lv_if_eq (tgt := 185) hx hb dX8_lives_177 (by decide) (fun _ => ?_) (fun c => absurd (show (nI 0) = 0 by decide +kernel) c)
              refine lv_iconst (v := (nI 0)) hx hb dX8_lives_185 (by decide +kernel) ?_
              refine g_callV (wr := []) (nA := 4) hC V hl.1 (m_goes_f l D T n o pv sv (-1) (nI 0) w0 g1 g2 g3 g4 tp w6 w7 w8 w9 w10 w11 w12 w13 w14 g15 bv g17 w18 w19 g20 w21 g22 g23 g24 w25 w26 w27 g28 g29 w30 g31 g32 g33 f6 th hf6.1) w_1122 w_1124 w_s50 w_9 w_1125 (by decide +kernel) rfl ⟨(Nat.le_of_ble_eq_true rfl), (Nat.le_of_ble_eq_true rfl)⟩ 0 (ci := 8) rfl rfl [0, 1, 2] [] rfl rfl rfl rfl (by decide) (Nat.le_of_ble_eq_true rfl) dX8_lives_186 ⟨(Nat.le_of_ble_eq_true rfl), (Nat.le_of_ble_eq_true rfl)⟩ rfl (fun r w1 H locs hQ V => ?_)
              obtain ⟨z_5, bm_6, ga_7, gh_8, rfl, rfl, f_9, f_10, f_11, f_12⟩ := hQ
              have V : gW D T A s [(o, .inr (8, [.int w0, .ref g1, .ref g2, .ref g3, .ref g4, .int (nI tp), .int w6, .int w7, .int w8, .int w9, .int w10, .int w11, .int w12, .int w13, .int w14, .ref g15, .int bm_6, .ref g17, .int w18, .int w19, .ref g20, .int w21, .ref g22, .ref g23, .ref g24, .int w25, .int w26, .int w27, .ref g28, .ref g29, .int w30, .ref g31, .ref g32, .ref g33])), (g1, .inl (T 0, 282, .inl ga_7)), (g15, .inl (T 0, 10, .inl gh_8))] H locs := V
              show W p l e _ s m args below meth c H locs _ _ _ (F0 m 189 ls [.int z_5, .int x5])
              have hga_7 : MS n fa ga_7 := ms_tr (by assumption) f_9
              refine lv_iadd hx hb dX8_lives_189 ?_
              refine lv_istore (lv' := [(5, .int (x5 + z_5)), (9, .int (nI 0)), (8, .int sv), (7, .int pv), (6, .int (nI k6)), (0, .ref o), (1, .int (nI cn)), (2, .int lz), (3, .int (-1)), (4, .int (nI 0))]) hx hb dX8_lives_190 hl (by decide) rfl (fun ls hl => ?_)
              refine lv_iinc (v := (nI (k6 + 1))) (lv' := [(6, .int (nI (k6 + 1))), (5, .int (x5 + z_5)), (9, .int (nI 0)), (8, .int sv), (7, .int pv), (0, .ref o), (1, .int (nI cn)), (2, .int lz), (3, .int (-1)), (4, .int (nI 0))]) hx hb dX8_lives_192 hl (k := 4) rfl (nI_1 _) (by decide) rfl (fun ls hl => ?_)
              refine lv_goto (tgt := 6) hx hb dX8_lives_195 (by decide) ?_
              exact ih_6 (k6 + 1) (x5 + z_5) bm_6 gh_8 ga_7 (by omega) (by assumption) (by rw [f_11, hsn, hpn, hI]; rfl) (by rw [hx5, f_10, hsn, hI]; rfl) (by omega) _ _ _ V (lv_sub hl [0, 1, 5, 6, 7, 8, 9] rfl)
            · skip
              have c_4 := b_nle (by omega) (by omega) c_4
              refine lv_iload hx hb dX8_lives_32 (lv_at hl 0 rfl) ?_
              refine lv_iload_n hx hb dX8_lives_34 rfl (lv_at hl 7 rfl) ?_
              refine lv_icmp_ne (tgt := 41) hx hb dX8_lives_35 (by decide) (fun c_13 => ?_) (fun c_13 => ?_)
              · skip
                have hlz := c_13
                refine lv_aload_n hx hb dX8_lives_41 rfl (lv_at hl 5 rfl) ?_
                refine g_get hC V (ci := 8) uwX8 0 rfl rfl 1 (by decide) w_913 rfl rfl dX8_lives_42 ?_
                refine lv_bipush (v := (nI 84)) hx hb dX8_lives_45 (by decide +kernel) ?_
                refine lv_iload hx hb dX8_lives_47 (lv_at hl 0 rfl) ?_
                refine lv_iadd hx hb dX8_lives_49 ?_
                refine g_vi (y := (nI (84 + k21))) (nI_add _ _) ?_
                obtain ⟨j_14, hj_14, ej_14⟩ := bd_ex (mi_to hf6.1 (i := k21) (by omega))
                refine g_iald hC V 1 rfl (vp_in_nI (by omega) (by omega)) (v := (nI j_14)) (by rw [nI_clamp (by omega)]; exact ej_14) dX8_lives_50 ?_
                refine lv_istore (lv' := [(10, .int (nI j_14)), (9, .int (nI k21)), (8, .int sv), (7, .int pv), (6, .int (nI k6)), (5, .int x5), (0, .ref o), (1, .int (nI cn)), (2, .int lz), (3, .int (-1)), (4, .int (nI 0))]) hx hb dX8_lives_51 hl (by decide) rfl (fun ls hl => ?_)
                refine lv_aload_n hx hb dX8_lives_53 rfl (lv_at hl 6 rfl) ?_
                refine lv_iload hx hb dX8_lives_54 (lv_at hl 1 rfl) ?_
                refine g_callVU (nA := 1) hC V hl.1 (m_isWarm_f l D T o k21 w0 g1 g2 g3 g4 tp w6 w7 w8 w9 w10 w11 w12 w13 w14 g15 bv g17 w18 w19 g20 w21 g22 g23 g24 w25 w26 w27 g28 g29 w30 g31 g32 g33 f6 (by first | assumption | omega)) w_1136 w_1138 w_s52 w_9 w_1139 (by decide +kernel) rfl ⟨(Nat.le_of_ble_eq_true rfl), (Nat.le_of_ble_eq_true rfl)⟩ 0 (ci := 8) rfl rfl [0, 1] rfl rfl (Nat.le_of_ble_eq_true rfl) dX8_lives_56 ⟨(Nat.le_of_ble_eq_true rfl), (Nat.le_of_ble_eq_true rfl)⟩ rfl (fun r w1 H locs hQ V => ?_)
                rcases hQ with ⟨rfl, rfl, f_15⟩ | ⟨rfl, rfl, f_16⟩
                · have V : gW D T A s [(o, .inr (8, [.int w0, .ref g1, .ref g2, .ref g3, .ref g4, .int (nI tp), .int w6, .int w7, .int w8, .int w9, .int w10, .int w11, .int w12, .int w13, .int w14, .ref g15, .int bv, .ref g17, .int w18, .int w19, .ref g20, .int w21, .ref g22, .ref g23, .ref g24, .int w25, .int w26, .int w27, .ref g28, .ref g29, .int w30, .ref g31, .ref g32, .ref g33])), (g1, .inl (T 0, 282, .inl f6)), (g15, .inl (T 0, 10, .inl th))] H locs := V _ [0, 0] rfl rfl rfl (by decide +kernel) rfl
                  show W p l e _ s m args below meth c H locs _ _ _ (F0 m 59 ls [.int (nI 1)])
                  refine lv_if_eq (tgt := 83) hx hb dX8_lives_59 (by decide) (fun c => absurd (show (nI 1) = 0 from c) (by decide +kernel)) (fun _ => ?_)
                  refine lv_aload_n hx hb dX8_lives_62 rfl (lv_at hl 6 rfl) ?_
                  refine lv_iload hx hb dX8_lives_63 (lv_at hl 1 rfl) ?_
                  refine g_callVU (nA := 1) hC V hl.1 (m_isDone l D T o k21 w0 g1 g2 g3 g4 tp w6 w7 w8 w9 w10 w11 w12 w13 w14 g15 bv g17 w18 w19 g20 w21 g22 g23 g24 w25 w26 w27 g28 g29 w30 g31 g32 g33 f6 (by first | assumption | omega)) w_1088 w_1090 w_s47 w_9 w_1091 (by decide +kernel) rfl ⟨(Nat.le_of_ble_eq_true rfl), (Nat.le_of_ble_eq_true rfl)⟩ 0 (ci := 8) rfl rfl [0, 1] rfl rfl (Nat.le_of_ble_eq_true rfl) dX8_lives_65 ⟨(Nat.le_of_ble_eq_true rfl), (Nat.le_of_ble_eq_true rfl)⟩ rfl (fun r w1 H locs hQ V => ?_)
                  rcases hQ with ⟨rfl, rfl, f_17⟩ | ⟨rfl, rfl, f_18⟩
                  · have V : gW D T A s [(o, .inr (8, [.int w0, .ref g1, .ref g2, .ref g3, .ref g4, .int (nI tp), .int w6, .int w7, .int w8, .int w9, .int w10, .int w11, .int w12, .int w13, .int w14, .ref g15, .int bv, .ref g17, .int w18, .int w19, .ref g20, .int w21, .ref g22, .ref g23, .ref g24, .int w25, .int w26, .int w27, .ref g28, .ref g29, .int w30, .ref g31, .ref g32, .ref g33])), (g1, .inl (T 0, 282, .inl f6)), (g15, .inl (T 0, 10, .inl th))] H locs := V _ [0, 0] rfl rfl rfl (by decide +kernel) rfl
                    show W p l e _ s m args below meth c H locs _ _ _ (F0 m 68 ls [.int (nI 1)])
                    have hnc : ¬ cuStr f6 k21 := fun q => f_17 q.1
                    refine lv_if_ne (tgt := 83) hx hb dX8_lives_68 (by decide) (fun _ => ?_) (fun c => absurd (show (nI 1) = 0 from c) (by decide +kernel))
                    refine lv_aload_n hx hb dX8_lives_83 rfl (lv_at hl 6 rfl) ?_
                    refine g_get hC V (ci := 8) uwX8 0 rfl rfl 1 (by decide) w_913 rfl rfl dX8_lives_84 ?_
                    refine lv_bipush (v := (nI 24)) hx hb dX8_lives_87 (by decide +kernel) ?_
                    refine lv_iload hx hb dX8_lives_89 (lv_at hl 0 rfl) ?_
                    refine lv_iadd hx hb dX8_lives_91 ?_
                    refine g_vi (y := (nI (24 + j_14))) (nI_add _ _) ?_
                    obtain ⟨j_19, hj_19, ej_19⟩ := bd_ex (mi_heat hf6.1 (i := j_14) (by omega))
                    refine g_iald hC V 1 rfl (vp_in_nI (by omega) (by omega)) (v := (nI j_19)) (by rw [nI_clamp (by omega)]; exact ej_19) dX8_lives_92 ?_
                    refine lv_aload_n hx hb dX8_lives_93 rfl (lv_at hl 6 rfl) ?_
                    refine g_get hC V (ci := 8) uwX8 0 rfl rfl 1 (by decide) w_913 rfl rfl dX8_lives_94 ?_
                    refine lv_iconst (v := (nI 4)) hx hb dX8_lives_97 (by decide +kernel) ?_
                    refine lv_iload hx hb dX8_lives_98 (lv_at hl 1 rfl) ?_
                    refine lv_iadd hx hb dX8_lives_100 ?_
                    refine g_vi (y := (nI (4 + k21))) (nI_add _ _) ?_
                    obtain ⟨j_20, hj_20, ej_20⟩ := bd_ex (mi_blast hf6.1 (i := k21) (by omega))
                    refine g_iald hC V 1 rfl (vp_in_nI (by omega) (by omega)) (v := (nI j_20)) (by rw [nI_clamp (by omega)]; exact ej_20) dX8_lives_101 ?_
                    refine lv_iadd hx hb dX8_lives_102 ?_
                    refine g_vi (y := (nI (j_19 + j_20))) (nI_add _ _) ?_
                    refine lv_aload_n hx hb dX8_lives_103 rfl (lv_at hl 6 rfl) ?_
                    refine g_get hC V (ci := 8) uwX8 0 rfl rfl 1 (by decide) w_913 rfl rfl dX8_lives_104 ?_
                    refine lv_bipush (v := (nI 44)) hx hb dX8_lives_107 (by decide +kernel) ?_
                    refine lv_iload hx hb dX8_lives_109 (lv_at hl 0 rfl) ?_
                    refine lv_iadd hx hb dX8_lives_111 ?_
                    refine g_vi (y := (nI (44 + j_14))) (nI_add _ _) ?_
                    refine g_iald hC V 1 rfl (vp_in_nI (by omega) (by omega)) (v := (f6 (44 + j_14))) (congrArg _ (nI_clamp (by omega))) dX8_lives_112 ?_
                    refine lv_icmp_gt (tgt := 125) hx hb dX8_lives_113 (by decide) (fun c_21 => ?_) (fun c_21 => ?_)
                    · skip
                      refine lv_iinc (v := (nI (k21 + 1))) (lv' := [(9, .int (nI (k21 + 1))), (10, .int (nI j_14)), (8, .int sv), (7, .int pv), (6, .int (nI k6)), (5, .int x5), (0, .ref o), (1, .int (nI cn)), (2, .int lz), (3, .int (-1)), (4, .int (nI 0))]) hx hb dX8_lives_125 hl (k := 1) rfl (nI_1 _) (by decide) rfl (fun ls hl => ?_)
                      refine lv_goto (tgt := 21) hx hb dX8_lives_128 (by decide) ?_
                      exact ih_21 (k21 + 1) pv sv (by omega) (by rw [hsv]; exact (cP_n hlz hnc (fun q => absurd c_21 ((bea_m ej_14 (by omega) ej_19 ej_20).mpr q))).1) (by rw [hpv]; exact (cP_n hlz hnc (fun q => absurd c_21 ((bea_m ej_14 (by omega) ej_19 ej_20).mpr q))).2) (by omega) _ _ _ V (lv_sub hl [0, 2, 3, 4, 5, 6, 7, 8, 9, 10] rfl)
                    · skip
                      refine lv_iload hx hb dX8_lives_116 (lv_at hl 3 rfl) ?_
                      refine lv_iconst (v := (nI 1)) hx hb dX8_lives_118 (by decide +kernel) ?_
                      refine lv_iload hx hb dX8_lives_119 (lv_at hl 1 rfl) ?_
                      refine lv_ishl hx hb dX8_lives_121 ?_
                      refine lv_ior hx hb dX8_lives_122 ?_
                      refine lv_istore (lv' := [(7, .int (pv ||| ((nI 1) <<< ((nI k21) &&& 31)))), (10, .int (nI j_14)), (9, .int (nI k21)), (8, .int sv), (6, .int (nI k6)), (5, .int x5), (0, .ref o), (1, .int (nI cn)), (2, .int lz), (3, .int (-1)), (4, .int (nI 0))]) hx hb dX8_lives_123 hl (by decide) rfl (fun ls hl => ?_)
                      refine lv_iinc (v := (nI (k21 + 1))) (lv' := [(9, .int (nI (k21 + 1))), (7, .int (pv ||| ((nI 1) <<< ((nI k21) &&& 31)))), (10, .int (nI j_14)), (8, .int sv), (6, .int (nI k6)), (5, .int x5), (0, .ref o), (1, .int (nI cn)), (2, .int lz), (3, .int (-1)), (4, .int (nI 0))]) hx hb dX8_lives_125 hl (k := 2) rfl (nI_1 _) (by decide) rfl (fun ls hl => ?_)
                      refine lv_goto (tgt := 21) hx hb dX8_lives_128 (by decide) ?_
                      exact ih_21 (k21 + 1) (pv ||| ((nI 1) <<< ((nI k21) &&& 31))) sv (by omega) (by rw [hsv]; exact (cP_y hlz hnc ((bea_m ej_14 (by omega) ej_19 ej_20).mp c_21)).1) (by rw [hpv]; exact (cP_y hlz hnc ((bea_m ej_14 (by omega) ej_19 ej_20).mp c_21)).2) (by omega) _ _ _ V (lv_sub hl [0, 3, 1, 4, 5, 6, 7, 8, 9, 10] rfl)
                  · have V : gW D T A s [(o, .inr (8, [.int w0, .ref g1, .ref g2, .ref g3, .ref g4, .int (nI tp), .int w6, .int w7, .int w8, .int w9, .int w10, .int w11, .int w12, .int w13, .int w14, .ref g15, .int bv, .ref g17, .int w18, .int w19, .ref g20, .int w21, .ref g22, .ref g23, .ref g24, .int w25, .int w26, .int w27, .ref g28, .ref g29, .int w30, .ref g31, .ref g32, .ref g33])), (g1, .inl (T 0, 282, .inl f6)), (g15, .inl (T 0, 10, .inl th))] H locs := V _ [0, 0] rfl rfl rfl (by decide +kernel) rfl
                    show W p l e _ s m args below meth c H locs _ _ _ (F0 m 68 ls [.int (nI 0)])
                    refine lv_if_ne (tgt := 83) hx hb dX8_lives_68 (by decide) (fun c => absurd (show (nI 0) = 0 by decide +kernel) c) (fun _ => ?_)
                    refine lv_iload hx hb dX8_lives_71 (lv_at hl 2 rfl) ?_
                    refine lv_iconst (v := (nI 1)) hx hb dX8_lives_73 (by decide +kernel) ?_
                    refine lv_iload hx hb dX8_lives_74 (lv_at hl 1 rfl) ?_
                    refine lv_ishl hx hb dX8_lives_76 ?_
                    refine lv_ior hx hb dX8_lives_77 ?_
                    refine lv_istore (lv' := [(8, .int (sv ||| ((nI 1) <<< ((nI k21) &&& 31)))), (10, .int (nI j_14)), (9, .int (nI k21)), (7, .int pv), (6, .int (nI k6)), (5, .int x5), (0, .ref o), (1, .int (nI cn)), (2, .int lz), (3, .int (-1)), (4, .int (nI 0))]) hx hb dX8_lives_78 hl (by decide) rfl (fun ls hl => ?_)
                    refine lv_goto (tgt := 125) hx hb dX8_lives_80 (by decide) ?_
                    refine lv_iinc (v := (nI (k21 + 1))) (lv' := [(9, .int (nI (k21 + 1))), (8, .int (sv ||| ((nI 1) <<< ((nI k21) &&& 31)))), (10, .int (nI j_14)), (7, .int pv), (6, .int (nI k6)), (5, .int x5), (0, .ref o), (1, .int (nI cn)), (2, .int lz), (3, .int (-1)), (4, .int (nI 0))]) hx hb dX8_lives_125 hl (k := 2) rfl (nI_1 _) (by decide) rfl (fun ls hl => ?_)
                    refine lv_goto (tgt := 21) hx hb dX8_lives_128 (by decide) ?_
                    exact ih_21 (k21 + 1) pv (sv ||| ((nI 1) <<< ((nI k21) &&& 31))) (by omega) (by rw [hsv]; exact (cS_y hlz ⟨f_18, f_15⟩).1) (by rw [hpv]; exact (cS_y hlz ⟨f_18, f_15⟩).2) (by omega) _ _ _ V (lv_sub hl [0, 1, 3, 4, 5, 6, 7, 8, 9, 10] rfl)
                · have V : gW D T A s [(o, .inr (8, [.int w0, .ref g1, .ref g2, .ref g3, .ref g4, .int (nI tp), .int w6, .int w7, .int w8, .int w9, .int w10, .int w11, .int w12, .int w13, .int w14, .ref g15, .int bv, .ref g17, .int w18, .int w19, .ref g20, .int w21, .ref g22, .ref g23, .ref g24, .int w25, .int w26, .int w27, .ref g28, .ref g29, .int w30, .ref g31, .ref g32, .ref g33])), (g1, .inl (T 0, 282, .inl f6)), (g15, .inl (T 0, 10, .inl th))] H locs := V _ [0, 0] rfl rfl rfl (by decide +kernel) rfl
                  show W p l e _ s m args below meth c H locs _ _ _ (F0 m 59 ls [.int (nI 0)])
                  have hnc : ¬ cuStr f6 k21 := fun q => f_16 q.2
                  refine lv_if_eq (tgt := 83) hx hb dX8_lives_59 (by decide) (fun _ => ?_) (fun c => absurd (show (nI 0) = 0 by decide +kernel) c)
                  refine lv_aload_n hx hb dX8_lives_83 rfl (lv_at hl 6 rfl) ?_
                  refine g_get hC V (ci := 8) uwX8 0 rfl rfl 1 (by decide) w_913 rfl rfl dX8_lives_84 ?_
                  refine lv_bipush (v := (nI 24)) hx hb dX8_lives_87 (by decide +kernel) ?_
                  refine lv_iload hx hb dX8_lives_89 (lv_at hl 0 rfl) ?_
                  refine lv_iadd hx hb dX8_lives_91 ?_
                  refine g_vi (y := (nI (24 + j_14))) (nI_add _ _) ?_
                  obtain ⟨j_22, hj_22, ej_22⟩ := bd_ex (mi_heat hf6.1 (i := j_14) (by omega))
                  refine g_iald hC V 1 rfl (vp_in_nI (by omega) (by omega)) (v := (nI j_22)) (by rw [nI_clamp (by omega)]; exact ej_22) dX8_lives_92 ?_
                  refine lv_aload_n hx hb dX8_lives_93 rfl (lv_at hl 6 rfl) ?_
                  refine g_get hC V (ci := 8) uwX8 0 rfl rfl 1 (by decide) w_913 rfl rfl dX8_lives_94 ?_
                  refine lv_iconst (v := (nI 4)) hx hb dX8_lives_97 (by decide +kernel) ?_
                  refine lv_iload hx hb dX8_lives_98 (lv_at hl 1 rfl) ?_
                  refine lv_iadd hx hb dX8_lives_100 ?_
                  refine g_vi (y := (nI (4 + k21))) (nI_add _ _) ?_
                  obtain ⟨j_23, hj_23, ej_23⟩ := bd_ex (mi_blast hf6.1 (i := k21) (by omega))
                  refine g_iald hC V 1 rfl (vp_in_nI (by omega) (by omega)) (v := (nI j_23)) (by rw [nI_clamp (by omega)]; exact ej_23) dX8_lives_101 ?_
                  refine lv_iadd hx hb dX8_lives_102 ?_
                  refine g_vi (y := (nI (j_22 + j_23))) (nI_add _ _) ?_
                  refine lv_aload_n hx hb dX8_lives_103 rfl (lv_at hl 6 rfl) ?_
                  refine g_get hC V (ci := 8) uwX8 0 rfl rfl 1 (by decide) w_913 rfl rfl dX8_lives_104 ?_
                  refine lv_bipush (v := (nI 44)) hx hb dX8_lives_107 (by decide +kernel) ?_
                  refine lv_iload hx hb dX8_lives_109 (lv_at hl 0 rfl) ?_
                  refine lv_iadd hx hb dX8_lives_111 ?_
                  refine g_vi (y := (nI (44 + j_14))) (nI_add _ _) ?_
                  refine g_iald hC V 1 rfl (vp_in_nI (by omega) (by omega)) (v := (f6 (44 + j_14))) (congrArg _ (nI_clamp (by omega))) dX8_lives_112 ?_
                  refine lv_icmp_gt (tgt := 125) hx hb dX8_lives_113 (by decide) (fun c_24 => ?_) (fun c_24 => ?_)
                  · skip
                    refine lv_iinc (v := (nI (k21 + 1))) (lv' := [(9, .int (nI (k21 + 1))), (10, .int (nI j_14)), (8, .int sv), (7, .int pv), (6, .int (nI k6)), (5, .int x5), (0, .ref o), (1, .int (nI cn)), (2, .int lz), (3, .int (-1)), (4, .int (nI 0))]) hx hb dX8_lives_125 hl (k := 1) rfl (nI_1 _) (by decide) rfl (fun ls hl => ?_)
                    refine lv_goto (tgt := 21) hx hb dX8_lives_128 (by decide) ?_
                    exact ih_21 (k21 + 1) pv sv (by omega) (by rw [hsv]; exact (cP_n hlz hnc (fun q => absurd c_24 ((bea_m ej_14 (by omega) ej_22 ej_23).mpr q))).1) (by rw [hpv]; exact (cP_n hlz hnc (fun q => absurd c_24 ((bea_m ej_14 (by omega) ej_22 ej_23).mpr q))).2) (by omega) _ _ _ V (lv_sub hl [0, 2, 3, 4, 5, 6, 7, 8, 9, 10] rfl)
                  · skip
                    refine lv_iload hx hb dX8_lives_116 (lv_at hl 3 rfl) ?_
                    refine lv_iconst (v := (nI 1)) hx hb dX8_lives_118 (by decide +kernel) ?_
                    refine lv_iload hx hb dX8_lives_119 (lv_at hl 1 rfl) ?_
                    refine lv_ishl hx hb dX8_lives_121 ?_
                    refine lv_ior hx hb dX8_lives_122 ?_
                    refine lv_istore (lv' := [(7, .int (pv ||| ((nI 1) <<< ((nI k21) &&& 31)))), (10, .int (nI j_14)), (9, .int (nI k21)), (8, .int sv), (6, .int (nI k6)), (5, .int x5), (0, .ref o), (1, .int (nI cn)), (2, .int lz), (3, .int (-1)), (4, .int (nI 0))]) hx hb dX8_lives_123 hl (by decide) rfl (fun ls hl => ?_)
                    refine lv_iinc (v := (nI (k21 + 1))) (lv' := [(9, .int (nI (k21 + 1))), (7, .int (pv ||| ((nI 1) <<< ((nI k21) &&& 31)))), (10, .int (nI j_14)), (8, .int sv), (6, .int (nI k6)), (5, .int x5), (0, .ref o), (1, .int (nI cn)), (2, .int lz), (3, .int (-1)), (4, .int (nI 0))]) hx hb dX8_lives_125 hl (k := 2) rfl (nI_1 _) (by decide) rfl (fun ls hl => ?_)
                    refine lv_goto (tgt := 21) hx hb dX8_lives_128 (by decide) ?_
                    exact ih_21 (k21 + 1) (pv ||| ((nI 1) <<< ((nI k21) &&& 31))) sv (by omega) (by rw [hsv]; exact (cP_y hlz hnc ((bea_m ej_14 (by omega) ej_22 ej_23).mp c_24)).1) (by rw [hpv]; exact (cP_y hlz hnc ((bea_m ej_14 (by omega) ej_22 ej_23).mp c_24)).2) (by omega) _ _ _ V (lv_sub hl [0, 3, 1, 4, 5, 6, 7, 8, 9, 10] rfl)
              · skip
                refine lv_goto (tgt := 125) hx hb dX8_lives_38 (by decide) ?_
                refine lv_iinc (v := (nI (k21 + 1))) (lv' := [(9, .int (nI (k21 + 1))), (8, .int sv), (7, .int pv), (6, .int (nI k6)), (5, .int x5), (0, .ref o), (1, .int (nI cn)), (2, .int lz), (3, .int (-1)), (4, .int (nI 0))]) hx hb dX8_lives_125 hl (k := 0) rfl (nI_1 _) (by decide) rfl (fun ls hl => ?_)
                refine lv_goto (tgt := 21) hx hb dX8_lives_128 (by decide) ?_
                exact ih_21 (k21 + 1) pv sv (by omega) (by rw [hsv]; exact (cS_lz c_13).1) (by rw [hpv]; exact (cS_lz c_13).2) (by omega) _ _ _ V (lv_sub hl [0, 1, 2, 3, 4, 5, 6, 7, 8, 9] rfl)
        exact L_3 _ 0 (nI 0) (nI 0) (by omega) rfl rfl (Nat.lt_succ_self _) _ _ _ V (lv_sub hl [0, 1, 2, 3, 4, 5, 6, 7, 8, 9] rfl)
  exact L_1 _ 0 (nI 0) w16 fh fa (by omega) (by assumption) rfl rfl (Nat.lt_succ_self _) _ _ _ V (lv_sub hl [0, 1, 2, 3, 4, 5, 6] rfl)
