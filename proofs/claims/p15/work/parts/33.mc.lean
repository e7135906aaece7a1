def q_m_lives (T : Nat → ClassId) (n : Nat) (o : Nat) (cn : Nat) (lz : Int32) (fi : Int32) (bl : Int32) (w0 : Int32) (g1 : Nat) (g2 : Nat) (g3 : Nat) (g4 : Nat) (tp : Nat) (w6 : Int32) (w7 : Int32) (w8 : Int32) (w9 : Int32) (w10 : Int32) (w11 : Int32) (w12 : Int32) (w13 : Int32) (w14 : Int32) (g15 : Nat) (w16 : Int32) (g17 : Nat) (w18 : Int32) (w19 : Int32) (g20 : Nat) (w21 : Int32) (g22 : Nat) (g23 : Nat) (g24 : Nat) (w25 : Int32) (w26 : Int32) (w27 : Int32) (g28 : Nat) (g29 : Nat) (w30 : Int32) (g31 : Nat) (g32 : Nat) (g33 : Nat) (fa : Nat → Int32) (fh : Nat → Int32) : Option Value → va_W → Prop := fun rr ww => (∃ (z : Int32) (bm : Int32) (ga : Nat → Int32) (gh : Nat → Int32), rr = some (.int z) ∧ ww = [(o, .inr (8, [.int w0, .ref g1, .ref g2, .ref g3, .ref g4, .int (nI tp), .int w6, .int w7, .int w8, .int w9, .int w10, .int w11, .int w12, .int w13, .int w14, .ref g15, .int bm, .ref g17, .int w18, .int w19, .ref g20, .int w21, .ref g22, .ref g23, .ref g24, .int w25, .int w26, .int w27, .ref g28, .ref g29, .int w30, .ref g31, .ref g32, .ref g33])), (g1, .inl (T 0, 282, .inl ga)), (g15, .inl (T 0, 10, .inl gh))] ∧ MS n fa ga)
set_option maxHeartbeats 4000000 in
set_option maxRecDepth 100000 in
theorem m_lives (l : Launch) (D : va_G) (T : Nat → ClassId) (n : Nat) (o : Nat) (cn : Nat) (lz : Int32) (fi : Int32) (bl : Int32) (w0 : Int32) (g1 : Nat) (g2 : Nat) (g3 : Nat) (g4 : Nat) (tp : Nat) (w6 : Int32) (w7 : Int32) (w8 : Int32) (w9 : Int32) (w10 : Int32) (w11 : Int32) (w12 : Int32) (w13 : Int32) (w14 : Int32) (g15 : Nat) (w16 : Int32) (g17 : Nat) (w18 : Int32) (w19 : Int32) (g20 : Nat) (w21 : Int32) (g22 : Nat) (g23 : Nat) (g24 : Nat) (w25 : Int32) (w26 : Int32) (w27 : Int32) (g28 : Nat) (g29 : Nat) (w30 : Int32) (g31 : Nat) (g32 : Nat) (g33 : Nat) (fa : Nat → Int32) (fh : Nat → Int32) (h_a : MI n fa) (h_c : cn ≤ 1000) (h_fi : (fi = -1 ∨ bd fi n)) : Ct l yX8_lives cX8_lives 11 (some .int) 3 0 0 D T [.ref o, .int (nI cn), .int lz, .int fi, .int bl] [(o, .inr (8, [.int w0, .ref g1, .ref g2, .ref g3, .ref g4, .int (nI tp), .int w6, .int w7, .int w8, .int w9, .int w10, .int w11, .int w12, .int w13, .int w14, .ref g15, .int w16, .ref g17, .int w18, .int w19, .ref g20, .int w21, .ref g22, .ref g23, .ref g24, .int w25, .int w26, .int w27, .ref g28, .ref g29, .int w30, .ref g31, .ref g32, .ref g33])), (g1, .inl (T 0, 282, .inl fa)), (g15, .inl (T 0, 10, .inl fh))] (q_m_lives T n o cn lz fi bl w0 g1 g2 g3 g4 tp w6 w7 w8 w9 w10 w11 w12 w13 w14 g15 w16 g17 w18 w19 g20 w21 g22 g23 g24 w25 w26 w27 g28 g29 w30 g31 g32 g33 fa fh) := by
  refine Ct.of (cc := cX8_lives) (maxL := 11) (ret := (some .int)) (by decide) (Nat.le_of_ble_eq_true rfl) ?_
  intro p e s m args below meth c A ls hC hnm V hl
  obtain ⟨hx, hb, hr, hml, hown, hts, hlocks⟩ := id hC
  generalize hH : s.heap = H at V ⊢
  clear hH
  have hl : lv_has ls 11 [(0, .ref o), (1, .int (nI cn)), (2, .int lz), (3, .int fi), (4, .int bl)] := hl
  generalize hlo : ([] : List Loc) = locs at V ⊢
  clear hlo
  have ms0 := ms_rf h_a
  have hn10 := h_a.1
  refine lv_iconst (v := (nI 0)) hx hb dX8_lives_0 (by decide +kernel) ?_
  refine lv_istore (lv' := [(5, .int (nI 0)), (0, .ref o), (1, .int (nI cn)), (2, .int lz), (3, .int fi), (4, .int bl)]) hx hb dX8_lives_1 hl (by decide) rfl (fun ls hl => ?_)
  refine lv_iconst (v := (nI 0)) hx hb dX8_lives_3 (by decide +kernel) ?_
  refine lv_istore (lv' := [(6, .int (nI 0)), (5, .int (nI 0)), (0, .ref o), (1, .int (nI cn)), (2, .int lz), (3, .int fi), (4, .int bl)]) hx hb dX8_lives_4 hl (by decide) rfl (fun ls hl => ?_)
  have L_1 : ∀ (fu : Nat) (k6 : Nat) (x6_5 : Int32) (bv : Int32) (th : Nat → Int32) (f6 : Nat → Int32), k6 ≤ cn → MS n fa f6 → cn - k6 < fu → ∀ (H : Heap) (locs : List Loc) (ls : Array Slot), gW D T A s [(o, .inr (8, [.int w0, .ref g1, .ref g2, .ref g3, .ref g4, .int (nI tp), .int w6, .int w7, .int w8, .int w9, .int w10, .int w11, .int w12, .int w13, .int w14, .ref g15, .int bv, .ref g17, .int w18, .int w19, .ref g20, .int w21, .ref g22, .ref g23, .ref g24, .int w25, .int w26, .int w27, .ref g28, .ref g29, .int w30, .ref g31, .ref g32, .ref g33])), (g1, .inl (T 0, 282, .inl f6)), (g15, .inl (T 0, 10, .inl th))] H locs → lv_has ls 11 [(6, .int (nI k6)), (5, .int x6_5), (0, .ref o), (1, .int (nI cn)), (2, .int lz), (3, .int fi), (4, .int bl)] → W p l e (rmD 3 0 0) s m args below meth c H locs 0 0 (MQ below (gQ D A (q_m_lives T n o cn lz fi bl w0 g1 g2 g3 g4 tp w6 w7 w8 w9 w10 w11 w12 w13 w14 g15 w16 g17 w18 w19 g20 w21 g22 g23 g24 w25 w26 w27 g28 g29 w30 g31 g32 g33 fa fh)) args s 0 0 A) (F0 m 6 ls []) := by
    intro fu_6
    induction fu_6 with
    | zero => intro k6 x6_5 bv th f6 hk6 hf6 hmu; exact absurd hmu (Nat.not_lt_zero _)
    | succ fu_6 ih_6 =>
      intro k6 x6_5 bv th f6 hk6 hf6 hmu_6 H locs ls V hl
      refine lv_iload hx hb dX8_lives_6 (lv_at hl 0 rfl) ?_
      refine lv_iload_n hx hb dX8_lives_8 rfl (lv_at hl 3 rfl) ?_
      refine lv_icmp_ge (tgt := 198) hx hb dX8_lives_9 (by decide) (fun c_2 => ?_) (fun c_2 => ?_)
      · skip
        have c_2 := b_le (by omega) (by omega) c_2
        refine lv_iload hx hb dX8_lives_198 (lv_at hl 1 rfl) ?_
        exact g_iret (Qr := (q_m_lives T n o cn lz fi bl w0 g1 g2 g3 g4 tp w6 w7 w8 w9 w10 w11 w12 w13 w14 g15 w16 g17 w18 w19 g20 w21 g22 g23 g24 w25 w26 w27 g28 g29 w30 g31 g32 g33 fa fh)) hC V ⟨(Nat.le_of_ble_eq_true rfl), (Nat.le_of_ble_eq_true rfl)⟩ ⟨x6_5, bv, f6, th, rfl, rfl, (by first | assumption | omega)⟩ dX8_lives_200
      · skip
        have c_2 := b_nle (by omega) (by omega) c_2
        refine lv_iconst (v := (nI 0)) hx hb dX8_lives_12 (by decide +kernel) ?_
        refine lv_istore (lv' := [(7, .int (nI 0)), (6, .int (nI k6)), (5, .int x6_5), (0, .ref o), (1, .int (nI cn)), (2, .int lz), (3, .int fi), (4, .int bl)]) hx hb dX8_lives_13 hl (by decide) rfl (fun ls hl => ?_)
        refine lv_iconst (v := (nI 0)) hx hb dX8_lives_15 (by decide +kernel) ?_
        refine lv_istore (lv' := [(8, .int (nI 0)), (7, .int (nI 0)), (6, .int (nI k6)), (5, .int x6_5), (0, .ref o), (1, .int (nI cn)), (2, .int lz), (3, .int fi), (4, .int bl)]) hx hb dX8_lives_16 hl (by decide) rfl (fun ls hl => ?_)
        refine lv_iconst (v := (nI 0)) hx hb dX8_lives_18 (by decide +kernel) ?_
        refine lv_istore (lv' := [(9, .int (nI 0)), (8, .int (nI 0)), (7, .int (nI 0)), (6, .int (nI k6)), (5, .int x6_5), (0, .ref o), (1, .int (nI cn)), (2, .int lz), (3, .int fi), (4, .int bl)]) hx hb dX8_lives_19 hl (by decide) rfl (fun ls hl => ?_)
        have L_3 : ∀ (fu : Nat) (k21 : Nat) (x21_8 : Int32) (x21_7 : Int32), k21 ≤ n → n - k21 < fu → ∀ (H : Heap) (locs : List Loc) (ls : Array Slot), gW D T A s [(o, .inr (8, [.int w0, .ref g1, .ref g2, .ref g3, .ref g4, .int (nI tp), .int w6, .int w7, .int w8, .int w9, .int w10, .int w11, .int w12, .int w13, .int w14, .ref g15, .int bv, .ref g17, .int w18, .int w19, .ref g20, .int w21, .ref g22, .ref g23, .ref g24, .int w25, .int w26, .int w27, .ref g28, .ref g29, .int w30, .ref g31, .ref g32, .ref g33])), (g1, .inl (T 0, 282, .inl f6)), (g15, .inl (T 0, 10, .inl th))] H locs → lv_has ls 11 [(9, .int (nI k21)), (8, .int x21_8), (7, .int x21_7), (6, .int (nI k6)), (5, .int x6_5), (0, .ref o), (1, .int (nI cn)), (2, .int lz), (3, .int fi), (4, .int bl)] → W p l e (rmD 3 0 0) s m args below meth c H locs 0 0 (MQ below (gQ D A (q_m_lives T n o cn lz fi bl w0 g1 g2 g3 g4 tp w6 w7 w8 w9 w10 w11 w12 w13 w14 g15 w16 g17 w18 w19 g20 w21 g22 g23 g24 w25 w26 w27 g28 g29 w30 g31 g32 g33 fa fh)) args s 0 0 A) (F0 m 21 ls []) := by
          intro fu_21
          induction fu_21 with
          | zero => intro k21 x21_8 x21_7 hk21 hmu; exact absurd hmu (Nat.not_lt_zero _)
          | succ fu_21 ih_21 =>
            intro k21 x21_8 x21_7 hk21 hmu_21 H locs ls V hl
            refine lv_iload hx hb dX8_lives_21 (lv_at hl 0 rfl) ?_
            refine lv_aload_n hx hb dX8_lives_23 rfl (lv_at hl 5 rfl) ?_
            refine g_get hC V (ci := 8) uwX8 0 rfl rfl 1 (by decide) w_913 rfl rfl dX8_lives_24 ?_
            refine lv_iconst (v := (nI 0)) hx hb dX8_lives_27 (by decide +kernel) ?_
            refine g_iald hC V 1 rfl (vp_in_nI (by decide) (by decide)) (v := (nI n)) (by rw [nI_clamp (by decide)]; first | rfl | exact h_a.2.1 | exact hf6.1.2.1) dX8_lives_28 ?_
            refine lv_icmp_ge (tgt := 131) hx hb dX8_lives_29 (by decide) (fun c_4 => ?_) (fun c_4 => ?_)
            · skip
              have c_4 := b_le (by omega) (by omega) c_4
              refine lv_iload_n hx hb dX8_lives_131 rfl (lv_at hl 8 rfl) ?_
              refine lv_iconst (v := (-1)) hx hb dX8_lives_132 (by decide +kernel) ?_
              refine lv_icmp_eq (tgt := 164) hx hb dX8_lives_133 (by decide) (fun c_5 => ?_) (fun c_5 => ?_)
              · skip
                refine lv_iconst (v := (nI 0)) hx hb dX8_lives_164 (by decide +kernel) ?_
                refine lv_istore (lv' := [(9, .int (nI 0)), (8, .int x21_8), (7, .int x21_7), (6, .int (nI k6)), (5, .int x6_5), (0, .ref o), (1, .int (nI cn)), (2, .int lz), (3, .int fi), (4, .int bl)]) hx hb dX8_lives_165 hl (by decide) rfl (fun ls hl => ?_)
                refine lv_iload hx hb dX8_lives_167 (lv_at hl 4 rfl) ?_
                refine lv_aload_n hx hb dX8_lives_169 rfl (lv_at hl 5 rfl) ?_
                refine lv_iload hx hb dX8_lives_170 (lv_at hl 2 rfl) ?_
                refine lv_iload hx hb dX8_lives_172 (lv_at hl 1 rfl) ?_
                refine lv_iload_n hx hb dX8_lives_174 rfl (lv_at hl 8 rfl) ?_
                refine lv_iload hx hb dX8_lives_175 (lv_at hl 0 rfl) ?_
                refine lv_if_eq (tgt := 185) hx hb dX8_lives_177 (by decide) (fun _ => ?_) (fun c => absurd (show (nI 0) = 0 by decide +kernel) c)
                refine lv_iconst (v := (nI 0)) hx hb dX8_lives_185 (by decide +kernel) ?_
                refine g_callV (wr := []) (nA := 4) hC V hl.1 (m_goes l D T n o x21_7 x21_8 fi (nI 0) w0 g1 g2 g3 g4 tp w6 w7 w8 w9 w10 w11 w12 w13 w14 g15 bv g17 w18 w19 g20 w21 g22 g23 g24 w25 w26 w27 g28 g29 w30 g31 g32 g33 f6 th hf6.1) w_1122 w_1124 w_s50 w_9 w_1125 (by decide +kernel) rfl ⟨(Nat.le_of_ble_eq_true rfl), (Nat.le_of_ble_eq_true rfl)⟩ 0 (ci := 8) rfl rfl [0, 1, 2] [] rfl rfl rfl rfl (by decide) (Nat.le_of_ble_eq_true rfl) dX8_lives_186 ⟨(Nat.le_of_ble_eq_true rfl), (Nat.le_of_ble_eq_true rfl)⟩ rfl (fun r w1 H locs hQ V => ?_)
                obtain ⟨z_6, bm_7, ga_8, gh_9, rfl, rfl, f_10⟩ := hQ
                have V : gW D T A s [(o, .inr (8, [.int w0, .ref g1, .ref g2, .ref g3, .ref g4, .int (nI tp), .int w6, .int w7, .int w8, .int w9, .int w10, .int w11, .int w12, .int w13, .int w14, .ref g15, .int bm_7, .ref g17, .int w18, .int w19, .ref g20, .int w21, .ref g22, .ref g23, .ref g24, .int w25, .int w26, .int w27, .ref g28, .ref g29, .int w30, .ref g31, .ref g32, .ref g33])), (g1, .inl (T 0, 282, .inl ga_8)), (g15, .inl (T 0, 10, .inl gh_9))] H locs := V
                show W p l e _ s m args below meth c H locs _ _ _ (F0 m 189 ls [.int z_6, .int x6_5])
                have hga_8 : MS n fa ga_8 := ms_tr (by assumption) f_10
                refine lv_iadd hx hb dX8_lives_189 ?_
                refine lv_istore (lv' := [(5, .int (x6_5 + z_6)), (9, .int (nI 0)), (8, .int x21_8), (7, .int x21_7), (6, .int (nI k6)), (0, .ref o), (1, .int (nI cn)), (2, .int lz), (3, .int fi), (4, .int bl)]) hx hb dX8_lives_190 hl (by decide) rfl (fun ls hl => ?_)
                refine lv_iinc (v := (nI (k6 + 1))) (lv' := [(6, .int (nI (k6 + 1))), (5, .int (x6_5 + z_6)), (9, .int (nI 0)), (8, .int x21_8), (7, .int x21_7), (0, .ref o), (1, .int (nI cn)), (2, .int lz), (3, .int fi), (4, .int bl)]) hx hb dX8_lives_192 hl (k := 4) rfl (nI_1 _) (by decide) rfl (fun ls hl => ?_)
                refine lv_goto (tgt := 6) hx hb dX8_lives_195 (by decide) ?_
                exact ih_6 (k6 + 1) (x6_5 + z_6) bm_7 gh_9 ga_8 (by omega) (by assumption) (by omega) _ _ _ V (lv_sub hl [0, 1, 5, 6, 7, 8, 9] rfl)
              · skip
                obtain ⟨jf, hjf, ejf⟩ := h_fi.resolve_left c_5
                refine lv_aload_n hx hb dX8_lives_136 rfl (lv_at hl 5 rfl) ?_
                refine g_get hC V (ci := 8) uwX8 0 rfl rfl 1 (by decide) w_913 rfl rfl dX8_lives_137 ?_
                refine lv_bipush (v := (nI 24)) hx hb dX8_lives_140 (by decide +kernel) ?_
                refine lv_iload_n hx hb dX8_lives_142 rfl (lv_at hl 8 rfl) ?_
                refine g_vi (y := nI jf) ejf ?_
                refine lv_iadd hx hb dX8_lives_143 ?_
                refine g_vi (y := (nI (24 + jf))) (nI_add _ _) ?_
                obtain ⟨j_11, hj_11, ej_11⟩ := bd_ex (mi_heat hf6.1 (i := jf) (by omega))
                refine g_iald hC V 1 rfl (vp_in_nI (by omega) (by omega)) (v := (nI j_11)) (by rw [nI_clamp (by omega)]; exact ej_11) dX8_lives_144 ?_
                refine lv_iload hx hb dX8_lives_145 (lv_at hl 9 rfl) ?_
                refine lv_iadd hx hb dX8_lives_147 ?_
                refine lv_aload_n hx hb dX8_lives_148 rfl (lv_at hl 5 rfl) ?_
                refine g_get hC V (ci := 8) uwX8 0 rfl rfl 1 (by decide) w_913 rfl rfl dX8_lives_149 ?_
                refine lv_bipush (v := (nI 44)) hx hb dX8_lives_152 (by decide +kernel) ?_
                refine lv_iload_n hx hb dX8_lives_154 rfl (lv_at hl 8 rfl) ?_
                refine g_vi (y := nI jf) ejf ?_
                refine lv_iadd hx hb dX8_lives_155 ?_
                refine g_vi (y := (nI (44 + jf))) (nI_add _ _) ?_
                refine g_iald hC V 1 rfl (vp_in_nI (by omega) (by omega)) (v := (f6 (44 + jf))) (congrArg _ (nI_clamp (by omega))) dX8_lives_156 ?_
                refine lv_icmp_gt (tgt := 164) hx hb dX8_lives_157 (by decide) (fun c_12 => ?_) (fun c_12 => ?_)
                · skip
                  refine lv_iconst (v := (nI 0)) hx hb dX8_lives_164 (by decide +kernel) ?_
                  refine lv_istore (lv' := [(9, .int (nI 0)), (8, .int x21_8), (7, .int x21_7), (6, .int (nI k6)), (5, .int x6_5), (0, .ref o), (1, .int (nI cn)), (2, .int lz), (3, .int fi), (4, .int bl)]) hx hb dX8_lives_165 hl (by decide) rfl (fun ls hl => ?_)
                  refine lv_iload hx hb dX8_lives_167 (lv_at hl 4 rfl) ?_
                  refine lv_aload_n hx hb dX8_lives_169 rfl (lv_at hl 5 rfl) ?_
                  refine lv_iload hx hb dX8_lives_170 (lv_at hl 2 rfl) ?_
                  refine lv_iload hx hb dX8_lives_172 (lv_at hl 1 rfl) ?_
                  refine lv_iload_n hx hb dX8_lives_174 rfl (lv_at hl 8 rfl) ?_
                  refine lv_iload hx hb dX8_lives_175 (lv_at hl 0 rfl) ?_
                  refine lv_if_eq (tgt := 185) hx hb dX8_lives_177 (by decide) (fun _ => ?_) (fun c => absurd (show (nI 0) = 0 by decide +kernel) c)
                  refine lv_iconst (v := (nI 0)) hx hb dX8_lives_185 (by decide +kernel) ?_
                  refine g_callV (wr := []) (nA := 4) hC V hl.1 (m_goes l D T n o x21_7 x21_8 fi (nI 0) w0 g1 g2 g3 g4 tp w6 w7 w8 w9 w10 w11 w12 w13 w14 g15 bv g17 w18 w19 g20 w21 g22 g23 g24 w25 w26 w27 g28 g29 w30 g31 g32 g33 f6 th hf6.1) w_1122 w_1124 w_s50 w_9 w_1125 (by decide +kernel) rfl ⟨(Nat.le_of_ble_eq_true rfl), (Nat.le_of_ble_eq_true rfl)⟩ 0 (ci := 8) rfl rfl [0, 1, 2] [] rfl rfl rfl rfl (by decide) (Nat.le_of_ble_eq_true rfl) dX8_lives_186 ⟨(Nat.le_of_ble_eq_true rfl), (Nat.le_of_ble_eq_true rfl)⟩ rfl (fun r w1 H locs hQ V => ?_)
                  obtain ⟨z_13, bm_14, ga_15, gh_16, rfl, rfl, f_17⟩ := hQ
                  have V : gW D T A s [(o, .inr (8, [.int w0, .ref g1, .ref g2, .ref g3, .ref g4, .int (nI tp), .int w6, .int w7, .int w8, .int w9, .int w10, .int w11, .int w12, .int w13, .int w14, .ref g15, .int bm_14, .ref g17, .int w18, .int w19, .ref g20, .int w21, .ref g22, .ref g23, .ref g24, .int w25, .int w26, .int w27, .ref g28, .ref g29, .int w30, .ref g31, .ref g32, .ref g33])), (g1, .inl (T 0, 282, .inl ga_15)), (g15, .inl (T 0, 10, .inl gh_16))] H locs := V
                  show W p l e _ s m args below meth c H locs _ _ _ (F0 m 189 ls [.int z_13, .int x6_5])
                  have hga_15 : MS n fa ga_15 := ms_tr (by assumption) f_17
                  refine lv_iadd hx hb dX8_lives_189 ?_
                  refine lv_istore (lv' := [(5, .int (x6_5 + z_13)), (9, .int (nI 0)), (8, .int x21_8), (7, .int x21_7), (6, .int (nI k6)), (0, .ref o), (1, .int (nI cn)), (2, .int lz), (3, .int fi), (4, .int bl)]) hx hb dX8_lives_190 hl (by decide) rfl (fun ls hl => ?_)
                  refine lv_iinc (v := (nI (k6 + 1))) (lv' := [(6, .int (nI (k6 + 1))), (5, .int (x6_5 + z_13)), (9, .int (nI 0)), (8, .int x21_8), (7, .int x21_7), (0, .ref o), (1, .int (nI cn)), (2, .int lz), (3, .int fi), (4, .int bl)]) hx hb dX8_lives_192 hl (k := 4) rfl (nI_1 _) (by decide) rfl (fun ls hl => ?_)
                  refine lv_goto (tgt := 6) hx hb dX8_lives_195 (by decide) ?_
                  exact ih_6 (k6 + 1) (x6_5 + z_13) bm_14 gh_16 ga_15 (by omega) (by assumption) (by omega) _ _ _ V (lv_sub hl [0, 1, 5, 6, 7, 8, 9] rfl)
                · skip
                  refine lv_iconst (v := (nI 1)) hx hb dX8_lives_160 (by decide +kernel) ?_
                  refine lv_goto (tgt := 165) hx hb dX8_lives_161 (by decide) ?_
                  refine lv_istore (lv' := [(9, .int (nI 1)), (8, .int x21_8), (7, .int x21_7), (6, .int (nI k6)), (5, .int x6_5), (0, .ref o), (1, .int (nI cn)), (2, .int lz), (3, .int fi), (4, .int bl)]) hx hb dX8_lives_165 hl (by decide) rfl (fun ls hl => ?_)
                  refine lv_iload hx hb dX8_lives_167 (lv_at hl 4 rfl) ?_
                  refine lv_aload_n hx hb dX8_lives_169 rfl (lv_at hl 5 rfl) ?_
                  refine lv_iload hx hb dX8_lives_170 (lv_at hl 2 rfl) ?_
                  refine lv_iload hx hb dX8_lives_172 (lv_at hl 1 rfl) ?_
                  refine lv_iload_n hx hb dX8_lives_174 rfl (lv_at hl 8 rfl) ?_
                  refine lv_iload hx hb dX8_lives_175 (lv_at hl 0 rfl) ?_
                  refine lv_if_eq (tgt := 185) hx hb dX8_lives_177 (by decide) (fun c => absurd (show (nI 1) = 0 from c) (by decide +kernel)) (fun _ => ?_)
                  refine lv_iload hx hb dX8_lives_180 (lv_at hl 9 rfl) ?_
                  refine lv_goto (tgt := 186) hx hb dX8_lives_182 (by decide) ?_
                  refine g_callV (wr := []) (nA := 4) hC V hl.1 (m_goes l D T n o x21_7 x21_8 fi bl w0 g1 g2 g3 g4 tp w6 w7 w8 w9 w10 w11 w12 w13 w14 g15 bv g17 w18 w19 g20 w21 g22 g23 g24 w25 w26 w27 g28 g29 w30 g31 g32 g33 f6 th hf6.1) w_1122 w_1124 w_s50 w_9 w_1125 (by decide +kernel) rfl ⟨(Nat.le_of_ble_eq_true rfl), (Nat.le_of_ble_eq_true rfl)⟩ 0 (ci := 8) rfl rfl [0, 1, 2] [] rfl rfl rfl rfl (by decide) (Nat.le_of_ble_eq_true rfl) dX8_lives_186 ⟨(Nat.le_of_ble_eq_true rfl), (Nat.le_of_ble_eq_true rfl)⟩ rfl (fun r w1 H locs hQ V => ?_)
                  obtain ⟨z_18, bm_19, ga_20, gh_21, rfl, rfl, f_22⟩ := hQ
                  have V : gW D T A s [(o, .inr (8, [.int w0, .ref g1, .ref g2, .ref g3, .ref g4, .int (nI tp), .int w6, .int w7, .int w8, .int w9, .int w10, .int w11, .int w12, .int w13, .int w14, .ref g15, .int bm_19, .ref g17, .int w18, .int w19, .ref g20, .int w21, .ref g22, .ref g23, .ref g24, .int w25, .int w26, .int w27, .ref g28, .ref g29, .int w30, .ref g31, .ref g32, .ref g33])), (g1, .inl (T 0, 282, .inl ga_20)), (g15, .inl (T 0, 10, .inl gh_21))] H locs := V
                  show W p l e _ s m args below meth c H locs _ _ _ (F0 m 189 ls [.int z_18, .int x6_5])
                  have hga_20 : MS n fa ga_20 := ms_tr (by assumption) f_22
                  refine lv_iadd hx hb dX8_lives_189 ?_
                  refine lv_istore (lv' := [(5, .int (x6_5 + z_18)), (9, .int (nI 1)), (8, .int x21_8), (7, .int x21_7), (6, .int (nI k6)), (0, .ref o), (1, .int (nI cn)), (2, .int lz), (3, .int fi), (4, .int bl)]) hx hb dX8_lives_190 hl (by decide) rfl (fun ls hl => ?_)
                  refine lv_iinc (v := (nI (k6 + 1))) (lv' := [(6, .int (nI (k6 + 1))), (5, .int (x6_5 + z_18)), (9, .int (nI 1)), (8, .int x21_8), (7, .int x21_7), (0, .ref o), (1, .int (nI cn)), (2, .int lz), (3, .int fi), (4, .int bl)]) hx hb dX8_lives_192 hl (k := 4) rfl (nI_1 _) (by decide) rfl (fun ls hl => ?_)
                  refine lv_goto (tgt := 6) hx hb dX8_lives_195 (by decide) ?_
                  exact ih_6 (k6 + 1) (x6_5 + z_18) bm_19 gh_21 ga_20 (by omega) (by assumption) (by omega) _ _ _ V (lv_sub hl [0, 1, 5, 6, 7, 8, 9] rfl)
            · skip
              have c_4 := b_nle (by omega) (by omega) c_4
              refine lv_iload hx hb dX8_lives_32 (lv_at hl 0 rfl) ?_
              refine lv_iload_n hx hb dX8_lives_34 rfl (lv_at hl 7 rfl) ?_
              refine lv_icmp_ne (tgt := 41) hx hb dX8_lives_35 (by decide) (fun c_23 => ?_) (fun c_23 => ?_)
              · skip
                refine lv_aload_n hx hb dX8_lives_41 rfl (lv_at hl 5 rfl) ?_
                refine g_get hC V (ci := 8) uwX8 0 rfl rfl 1 (by decide) w_913 rfl rfl dX8_lives_42 ?_
                refine lv_bipush (v := (nI 84)) hx hb dX8_lives_45 (by decide +kernel) ?_
                refine lv_iload hx hb dX8_lives_47 (lv_at hl 0 rfl) ?_
                refine lv_iadd hx hb dX8_lives_49 ?_
                refine g_vi (y := (nI (84 + k21))) (nI_add _ _) ?_
                obtain ⟨j_24, hj_24, ej_24⟩ := bd_ex (mi_to hf6.1 (i := k21) (by omega))
                refine g_iald hC V 1 rfl (vp_in_nI (by omega) (by omega)) (v := (nI j_24)) (by rw [nI_clamp (by omega)]; exact ej_24) dX8_lives_50 ?_
                refine lv_istore (lv' := [(10, .int (nI j_24)), (9, .int (nI k21)), (8, .int x21_8), (7, .int x21_7), (6, .int (nI k6)), (5, .int x6_5), (0, .ref o), (1, .int (nI cn)), (2, .int lz), (3, .int fi), (4, .int bl)]) hx hb dX8_lives_51 hl (by decide) rfl (fun ls hl => ?_)
                refine lv_aload_n hx hb dX8_lives_53 rfl (lv_at hl 6 rfl) ?_
                refine lv_iload hx hb dX8_lives_54 (lv_at hl 1 rfl) ?_
                refine g_callVU (nA := 1) hC V hl.1 (m_isWarm l D T o k21 w0 g1 g2 g3 g4 tp w6 w7 w8 w9 w10 w11 w12 w13 w14 g15 bv g17 w18 w19 g20 w21 g22 g23 g24 w25 w26 w27 g28 g29 w30 g31 g32 g33 f6 (by first | assumption | omega)) w_1136 w_1138 w_s52 w_9 w_1139 (by decide +kernel) rfl ⟨(Nat.le_of_ble_eq_true rfl), (Nat.le_of_ble_eq_true rfl)⟩ 0 (ci := 8) rfl rfl [0, 1] rfl rfl (Nat.le_of_ble_eq_true rfl) dX8_lives_56 ⟨(Nat.le_of_ble_eq_true rfl), (Nat.le_of_ble_eq_true rfl)⟩ rfl (fun r w1 H locs hQ V => ?_)
                rcases hQ with ⟨rfl, rfl⟩ | ⟨rfl, rfl⟩
                · have V : gW D T A s [(o, .inr (8, [.int w0, .ref g1, .ref g2, .ref g3, .ref g4, .int (nI tp), .int w6, .int w7, .int w8, .int w9, .int w10, .int w11, .int w12, .int w13, .int w14, .ref g15, .int bv, .ref g17, .int w18, .int w19, .ref g20, .int w21, .ref g22, .ref g23, .ref g24, .int w25, .int w26, .int w27, .ref g28, .ref g29, .int w30, .ref g31, .ref g32, .ref g33])), (g1, .inl (T 0, 282, .inl f6)), (g15, .inl (T 0, 10, .inl th))] H locs := V _ [0, 0] rfl rfl rfl (by decide +kernel) rfl
                  show W p l e _ s m args below meth c H locs _ _ _ (F0 m 59 ls [.int (nI 1)])
                  refine lv_if_eq (tgt := 83) hx hb dX8_lives_59 (by decide) (fun c => absurd (show (nI 1) = 0 from c) (by decide +kernel)) (fun _ => ?_)
                  refine lv_aload_n hx hb dX8_lives_62 rfl (lv_at hl 6 rfl) ?_
                  refine lv_iload hx hb dX8_lives_63 (lv_at hl 1 rfl) ?_
                  refine g_callVU (nA := 1) hC V hl.1 (m_isDone l D T o k21 w0 g1 g2 g3 g4 tp w6 w7 w8 w9 w10 w11 w12 w13 w14 g15 bv g17 w18 w19 g20 w21 g22 g23 g24 w25 w26 w27 g28 g29 w30 g31 g32 g33 f6 (by first | assumption | omega)) w_1088 w_1090 w_s47 w_9 w_1091 (by decide +kernel) rfl ⟨(Nat.le_of_ble_eq_true rfl), (Nat.le_of_ble_eq_true rfl)⟩ 0 (ci := 8) rfl rfl [0, 1] rfl rfl (Nat.le_of_ble_eq_true rfl) dX8_lives_65 ⟨(Nat.le_of_ble_eq_true rfl), (Nat.le_of_ble_eq_true rfl)⟩ rfl (fun r w1 H locs hQ V => ?_)
                  rcases hQ with ⟨rfl, rfl, f_25⟩ | ⟨rfl, rfl, f_26⟩
                  · have V : gW D T A s [(o, .inr (8, [.int w0, .ref g1, .ref g2, .ref g3, .ref g4, .int (nI tp), .int w6, .int w7, .int w8, .int w9, .int w10, .int w11, .int w12, .int w13, .int w14, .ref g15, .int bv, .ref g17, .int w18, .int w19, .ref g20, .int w21, .ref g22, .ref g23, .ref g24, .int w25, .int w26, .int w27, .ref g28, .ref g29, .int w30, .ref g31, .ref g32, .ref g33])), (g1, .inl (T 0, 282, .inl f6)), (g15, .inl (T 0, 10, .inl th))] H locs := V _ [0, 0] rfl rfl rfl (by decide +kernel) rfl
                    show W p l e _ s m args below meth c H locs _ _ _ (F0 m 68 ls [.int (nI 1)])
                    refine lv_if_ne (tgt := 83) hx hb dX8_lives_68 (by decide) (fun _ => ?_) (fun c => absurd (show (nI 1) = 0 from c) (by decide +kernel))
                    refine lv_aload_n hx hb dX8_lives_83 rfl (lv_at hl 6 rfl) ?_
                    refine g_get hC V (ci := 8) uwX8 0 rfl rfl 1 (by decide) w_913 rfl rfl dX8_lives_84 ?_
                    refine lv_bipush (v := (nI 24)) hx hb dX8_lives_87 (by decide +kernel) ?_
                    refine lv_iload hx hb dX8_lives_89 (lv_at hl 0 rfl) ?_
                    refine lv_iadd hx hb dX8_lives_91 ?_
                    refine g_vi (y := (nI (24 + j_24))) (nI_add _ _) ?_
                    obtain ⟨j_27, hj_27, ej_27⟩ := bd_ex (mi_heat hf6.1 (i := j_24) (by omega))
                    refine g_iald hC V 1 rfl (vp_in_nI (by omega) (by omega)) (v := (nI j_27)) (by rw [nI_clamp (by omega)]; exact ej_27) dX8_lives_92 ?_
                    refine lv_aload_n hx hb dX8_lives_93 rfl (lv_at hl 6 rfl) ?_
                    refine g_get hC V (ci := 8) uwX8 0 rfl rfl 1 (by decide) w_913 rfl rfl dX8_lives_94 ?_
                    refine lv_iconst (v := (nI 4)) hx hb dX8_lives_97 (by decide +kernel) ?_
                    refine lv_iload hx hb dX8_lives_98 (lv_at hl 1 rfl) ?_
                    refine lv_iadd hx hb dX8_lives_100 ?_
                    refine g_vi (y := (nI (4 + k21))) (nI_add _ _) ?_
                    obtain ⟨j_28, hj_28, ej_28⟩ := bd_ex (mi_blast hf6.1 (i := k21) (by omega))
                    refine g_iald hC V 1 rfl (vp_in_nI (by omega) (by omega)) (v := (nI j_28)) (by rw [nI_clamp (by omega)]; exact ej_28) dX8_lives_101 ?_
                    refine lv_iadd hx hb dX8_lives_102 ?_
                    refine g_vi (y := (nI (j_27 + j_28))) (nI_add _ _) ?_
                    refine lv_aload_n hx hb dX8_lives_103 rfl (lv_at hl 6 rfl) ?_
                    refine g_get hC V (ci := 8) uwX8 0 rfl rfl 1 (by decide) w_913 rfl rfl dX8_lives_104 ?_
                    refine lv_bipush (v := (nI 44)) hx hb dX8_lives_107 (by decide +kernel) ?_
                    refine lv_iload hx hb dX8_lives_109 (lv_at hl 0 rfl) ?_
                    refine lv_iadd hx hb dX8_lives_111 ?_
                    refine g_vi (y := (nI (44 + j_24))) (nI_add _ _) ?_
                    refine g_iald hC V 1 rfl (vp_in_nI (by omega) (by omega)) (v := (f6 (44 + j_24))) (congrArg _ (nI_clamp (by omega))) dX8_lives_112 ?_
                    refine lv_icmp_gt (tgt := 125) hx hb dX8_lives_113 (by decide) (fun c_29 => ?_) (fun c_29 => ?_)
                    · skip
                      refine lv_iinc (v := (nI (k21 + 1))) (lv' := [(9, .int (nI (k21 + 1))), (10, .int (nI j_24)), (8, .int x21_8), (7, .int x21_7), (6, .int (nI k6)), (5, .int x6_5), (0, .ref o), (1, .int (nI cn)), (2, .int lz), (3, .int fi), (4, .int bl)]) hx hb dX8_lives_125 hl (k := 1) rfl (nI_1 _) (by decide) rfl (fun ls hl => ?_)
                      refine lv_goto (tgt := 21) hx hb dX8_lives_128 (by decide) ?_
                      exact ih_21 (k21 + 1) x21_8 x21_7 (by omega) (by omega) _ _ _ V (lv_sub hl [0, 2, 3, 4, 5, 6, 7, 8, 9, 10] rfl)
                    · skip
                      refine lv_iload hx hb dX8_lives_116 (lv_at hl 3 rfl) ?_
                      refine lv_iconst (v := (nI 1)) hx hb dX8_lives_118 (by decide +kernel) ?_
                      refine lv_iload hx hb dX8_lives_119 (lv_at hl 1 rfl) ?_
                      refine lv_ishl hx hb dX8_lives_121 ?_
                      refine lv_ior hx hb dX8_lives_122 ?_
                      refine lv_istore (lv' := [(7, .int (x21_7 ||| ((nI 1) <<< ((nI k21) &&& 31)))), (10, .int (nI j_24)), (9, .int (nI k21)), (8, .int x21_8), (6, .int (nI k6)), (5, .int x6_5), (0, .ref o), (1, .int (nI cn)), (2, .int lz), (3, .int fi), (4, .int bl)]) hx hb dX8_lives_123 hl (by decide) rfl (fun ls hl => ?_)
                      refine lv_iinc (v := (nI (k21 + 1))) (lv' := [(9, .int (nI (k21 + 1))), (7, .int (x21_7 ||| ((nI 1) <<< ((nI k21) &&& 31)))), (10, .int (nI j_24)), (8, .int x21_8), (6, .int (nI k6)), (5, .int x6_5), (0, .ref o), (1, .int (nI cn)), (2, .int lz), (3, .int fi), (4, .int bl)]) hx hb dX8_lives_125 hl (k := 2) rfl (nI_1 _) (by decide) rfl (fun ls hl => ?_)
                      refine lv_goto (tgt := 21) hx hb dX8_lives_128 (by decide) ?_
                      exact ih_21 (k21 + 1) x21_8 (x21_7 ||| ((nI 1) <<< ((nI k21) &&& 31))) (by omega) (by omega) _ _ _ V (lv_sub hl [0, 3, 1, 4, 5, 6, 7, 8, 9, 10] rfl)
                  · have V : gW D T A s [(o, .inr (8, [.int w0, .ref g1, .ref g2, .ref g3, .ref g4, .int (nI tp), .int w6, .int w7, .int w8, .int w9, .int w10, .int w11, .int w12, .int w13, .int w14, .ref g15, .int bv, .ref g17, .int w18, .int w19, .ref g20, .int w21, .ref g22, .ref g23, .ref g24, .int w25, .int w26, .int w27, .ref g28, .ref g29, .int w30, .ref g31, .ref g32, .ref g33])), (g1, .inl (T 0, 282, .inl f6)), (g15, .inl (T 0, 10, .inl th))] H locs := V _ [0, 0] rfl rfl rfl (by decide +kernel) rfl
                    show W p l e _ s m args below meth c H locs _ _ _ (F0 m 68 ls [.int (nI 0)])
                    refine lv_if_ne (tgt := 83) hx hb dX8_lives_68 (by decide) (fun c => absurd (show (nI 0) = 0 by decide +kernel) c) (fun _ => ?_)
                    refine lv_iload hx hb dX8_lives_71 (lv_at hl 2 rfl) ?_
                    refine lv_iconst (v := (nI 1)) hx hb dX8_lives_73 (by decide +kernel) ?_
                    refine lv_iload hx hb dX8_lives_74 (lv_at hl 1 rfl) ?_
                    refine lv_ishl hx hb dX8_lives_76 ?_
                    refine lv_ior hx hb dX8_lives_77 ?_
                    refine lv_istore (lv' := [(8, .int (x21_8 ||| ((nI 1) <<< ((nI k21) &&& 31)))), (10, .int (nI j_24)), (9, .int (nI k21)), (7, .int x21_7), (6, .int (nI k6)), (5, .int x6_5), (0, .ref o), (1, .int (nI cn)), (2, .int lz), (3, .int fi), (4, .int bl)]) hx hb dX8_lives_78 hl (by decide) rfl (fun ls hl => ?_)
                    refine lv_goto (tgt := 125) hx hb dX8_lives_80 (by decide) ?_
                    refine lv_iinc (v := (nI (k21 + 1))) (lv' := [(9, .int (nI (k21 + 1))), (8, .int (x21_8 ||| ((nI 1) <<< ((nI k21) &&& 31)))), (10, .int (nI j_24)), (7, .int x21_7), (6, .int (nI k6)), (5, .int x6_5), (0, .ref o), (1, .int (nI cn)), (2, .int lz), (3, .int fi), (4, .int bl)]) hx hb dX8_lives_125 hl (k := 2) rfl (nI_1 _) (by decide) rfl (fun ls hl => ?_)
                    refine lv_goto (tgt := 21) hx hb dX8_lives_128 (by decide) ?_
                    exact ih_21 (k21 + 1) (x21_8 ||| ((nI 1) <<< ((nI k21) &&& 31))) x21_7 (by omega) (by omega) _ _ _ V (lv_sub hl [0, 1, 3, 4, 5, 6, 7, 8, 9, 10] rfl)
                · have V : gW D T A s [(o, .inr (8, [.int w0, .ref g1, .ref g2, .ref g3, .ref g4, .int (nI tp), .int w6, .int w7, .int w8, .int w9, .int w10, .int w11, .int w12, .int w13, .int w14, .ref g15, .int bv, .ref g17, .int w18, .int w19, .ref g20, .int w21, .ref g22, .ref g23, .ref g24, .int w25, .int w26, .int w27, .ref g28, .ref g29, .int w30, .ref g31, .ref g32, .ref g33])), (g1, .inl (T 0, 282, .inl f6)), (g15, .inl (T 0, 10, .inl th))] H locs := V _ [0, 0] rfl rfl rfl (by decide +kernel) rfl
                  show W p l e _ s m args below meth c H locs _ _ _ (F0 m 59 ls [.int (nI 0)])
                  refine lv_if_eq (tgt := 83) hx hb dX8_lives_59 (by decide) (fun _ => ?_) (fun c => absurd (show (nI 0) = 0 by decide +kernel) c)
                  refine lv_aload_n hx hb dX8_lives_83 rfl (lv_at hl 6 rfl) ?_
                  refine g_get hC V (ci := 8) uwX8 0 rfl rfl 1 (by decide) w_913 rfl rfl dX8_lives_84 ?_
                  refine lv_bipush (v := (nI 24)) hx hb dX8_lives_87 (by decide +kernel) ?_
                  refine lv_iload hx hb dX8_lives_89 (lv_at hl 0 rfl) ?_
                  refine lv_iadd hx hb dX8_lives_91 ?_
                  refine g_vi (y := (nI (24 + j_24))) (nI_add _ _) ?_
                  obtain ⟨j_30, hj_30, ej_30⟩ := bd_ex (mi_heat hf6.1 (i := j_24) (by omega))
                  refine g_iald hC V 1 rfl (vp_in_nI (by omega) (by omega)) (v := (nI j_30)) (by rw [nI_clamp (by omega)]; exact ej_30) dX8_lives_92 ?_
                  refine lv_aload_n hx hb dX8_lives_93 rfl (lv_at hl 6 rfl) ?_
                  refine g_get hC V (ci := 8) uwX8 0 rfl rfl 1 (by decide) w_913 rfl rfl dX8_lives_94 ?_
                  refine lv_iconst (v := (nI 4)) hx hb dX8_lives_97 (by decide +kernel) ?_
                  refine lv_iload hx hb dX8_lives_98 (lv_at hl 1 rfl) ?_
                  refine lv_iadd hx hb dX8_lives_100 ?_
                  refine g_vi (y := (nI (4 + k21))) (nI_add _ _) ?_
                  obtain ⟨j_31, hj_31, ej_31⟩ := bd_ex (mi_blast hf6.1 (i := k21) (by omega))
                  refine g_iald hC V 1 rfl (vp_in_nI (by omega) (by omega)) (v := (nI j_31)) (by rw [nI_clamp (by omega)]; exact ej_31) dX8_lives_101 ?_
                  refine lv_iadd hx hb dX8_lives_102 ?_
                  refine g_vi (y := (nI (j_30 + j_31))) (nI_add _ _) ?_
                  refine lv_aload_n hx hb dX8_lives_103 rfl (lv_at hl 6 rfl) ?_
                  refine g_get hC V (ci := 8) uwX8 0 rfl rfl 1 (by decide) w_913 rfl rfl dX8_lives_104 ?_
                  refine lv_bipush (v := (nI 44)) hx hb dX8_lives_107 (by decide +kernel) ?_
                  refine lv_iload hx hb dX8_lives_109 (lv_at hl 0 rfl) ?_
                  refine lv_iadd hx hb dX8_lives_111 ?_
                  refine g_vi (y := (nI (44 + j_24))) (nI_add _ _) ?_
                  refine g_iald hC V 1 rfl (vp_in_nI (by omega) (by omega)) (v := (f6 (44 + j_24))) (congrArg _ (nI_clamp (by omega))) dX8_lives_112 ?_
                  refine lv_icmp_gt (tgt := 125) hx hb dX8_lives_113 (by decide) (fun c_32 => ?_) (fun c_32 => ?_)
                  · skip
                    refine lv_iinc (v := (nI (k21 + 1))) (lv' := [(9, .int (nI (k21 + 1))), (10, .int (nI j_24)), (8, .int x21_8), (7, .int x21_7), (6, .int (nI k6)), (5, .int x6_5), (0, .ref o), (1, .int (nI cn)), (2, .int lz), (3, .int fi), (4, .int bl)]) hx hb dX8_lives_125 hl (k := 1) rfl (nI_1 _) (by decide) rfl (fun ls hl => ?_)
                    refine lv_goto (tgt := 21) hx hb dX8_lives_128 (by decide) ?_
                    exact ih_21 (k21 + 1) x21_8 x21_7 (by omega) (by omega) _ _ _ V (lv_sub hl [0, 2, 3, 4, 5, 6, 7, 8, 9, 10] rfl)
                  · skip
                    refine lv_iload hx hb dX8_lives_116 (lv_at hl 3 rfl) ?_
                    refine lv_iconst (v := (nI 1)) hx hb dX8_lives_118 (by decide +kernel) ?_
                    refine lv_iload hx hb dX8_lives_119 (lv_at hl 1 rfl) ?_
                    refine lv_ishl hx hb dX8_lives_121 ?_
                    refine lv_ior hx hb dX8_lives_122 ?_
                    refine lv_istore (lv' := [(7, .int (x21_7 ||| ((nI 1) <<< ((nI k21) &&& 31)))), (10, .int (nI j_24)), (9, .int (nI k21)), (8, .int x21_8), (6, .int (nI k6)), (5, .int x6_5), (0, .ref o), (1, .int (nI cn)), (2, .int lz), (3, .int fi), (4, .int bl)]) hx hb dX8_lives_123 hl (by decide) rfl (fun ls hl => ?_)
                    refine lv_iinc (v := (nI (k21 + 1))) (lv' := [(9, .int (nI (k21 + 1))), (7, .int (x21_7 ||| ((nI 1) <<< ((nI k21) &&& 31)))), (10, .int (nI j_24)), (8, .int x21_8), (6, .int (nI k6)), (5, .int x6_5), (0, .ref o), (1, .int (nI cn)), (2, .int lz), (3, .int fi), (4, .int bl)]) hx hb dX8_lives_125 hl (k := 2) rfl (nI_1 _) (by decide) rfl (fun ls hl => ?_)
                    refine lv_goto (tgt := 21) hx hb dX8_lives_128 (by decide) ?_
                    exact ih_21 (k21 + 1) x21_8 (x21_7 ||| ((nI 1) <<< ((nI k21) &&& 31))) (by omega) (by omega) _ _ _ V (lv_sub hl [0, 3, 1, 4, 5, 6, 7, 8, 9, 10] rfl)
              · skip
                refine lv_goto (tgt := 125) hx hb dX8_lives_38 (by decide) ?_
                refine lv_iinc (v := (nI (k21 + 1))) (lv' := [(9, .int (nI (k21 + 1))), (8, .int x21_8), (7, .int x21_7), (6, .int (nI k6)), (5, .int x6_5), (0, .ref o), (1, .int (nI cn)), (2, .int lz), (3, .int fi), (4, .int bl)]) hx hb dX8_lives_125 hl (k := 0) rfl (nI_1 _) (by decide) rfl (fun ls hl => ?_)
                refine lv_goto (tgt := 21) hx hb dX8_lives_128 (by decide) ?_
                exact ih_21 (k21 + 1) x21_8 x21_7 (by omega) (by omega) _ _ _ V (lv_sub hl [0, 1, 2, 3, 4, 5, 6, 7, 8, 9] rfl)
        exact L_3 _ 0 (nI 0) (nI 0) (by omega) (Nat.lt_succ_self _) _ _ _ V (lv_sub hl [0, 1, 2, 3, 4, 5, 6, 7, 8, 9] rfl)
  exact L_1 _ 0 (nI 0) w16 fh fa (by omega) (by assumption) (Nat.lt_succ_self _) _ _ _ V (lv_sub hl [0, 1, 2, 3, 4, 5, 6] rfl)

def q_m_doneBy (T : Nat → ClassId) (n : Nat) (o : Nat) (cn : Nat) (lz : Int32) (fi : Int32) (bl : Int32) (w0 : Int32) (g1 : Nat) (g2 : Nat) (g3 : Nat) (g4 : Nat) (tp : Nat) (w6 : Int32) (w7 : Int32) (w8 : Int32) (w9 : Int32) (w10 : Int32) (w11 : Int32) (w12 : Int32) (w13 : Int32) (w14 : Int32) (g15 : Nat) (w16 : Int32) (g17 : Nat) (w18 : Int32) (w19 : Int32) (g20 : Nat) (w21 : Int32) (g22 : Nat) (g23 : Nat) (g24 : Nat) (w25 : Int32) (w26 : Int32) (w27 : Int32) (g28 : Nat) (g29 : Nat) (w30 : Int32) (g31 : Nat) (g32 : Nat) (g33 : Nat) (fa : Nat → Int32) (fh : Nat → Int32) (fk : Nat → Int32) : Option Value → va_W → Prop := fun rr ww => (∃ (z : Int32) (bm : Int32) (gh : Nat → Int32) (gk : Nat → Int32), rr = some (.int z) ∧ ww = [(o, .inr (8, [.int w0, .ref g1, .ref g2, .ref g3, .ref g4, .int (nI tp), .int w6, .int w7, .int w8, .int w9, .int w10, .int w11, .int w12, .int w13, .int w14, .ref g15, .int bm, .ref g17, .int w18, .int w19, .ref g20, .int w21, .ref g22, .ref g23, .ref g24, .int w25, .int w26, .int w27, .ref g28, .ref g29, .int w30, .ref g31, .ref g32, .ref g33])), (g1, .inl (T 0, 282, .inl fa)), (g15, .inl (T 0, 10, .inl gh)), (g17, .inl (T 0, 94, .inl gk))])
set_option maxHeartbeats 4000000 in
set_option maxRecDepth 100000 in
theorem m_doneBy (l : Launch) (D : va_G) (T : Nat → ClassId) (n : Nat) (o : Nat) (cn : Nat) (lz : Int32) (fi : Int32) (bl : Int32) (w0 : Int32) (g1 : Nat) (g2 : Nat) (g3 : Nat) (g4 : Nat) (tp : Nat) (w6 : Int32) (w7 : Int32) (w8 : Int32) (w9 : Int32) (w10 : Int32) (w11 : Int32) (w12 : Int32) (w13 : Int32) (w14 : Int32) (g15 : Nat) (w16 : Int32) (g17 : Nat) (w18 : Int32) (w19 : Int32) (g20 : Nat) (w21 : Int32) (g22 : Nat) (g23 : Nat) (g24 : Nat) (w25 : Int32) (w26 : Int32) (w27 : Int32) (g28 : Nat) (g29 : Nat) (w30 : Int32) (g31 : Nat) (g32 : Nat) (g33 : Nat) (fa : Nat → Int32) (fh : Nat → Int32) (fk : Nat → Int32) (h_a : MI n fa) (h_c : cn ≤ 1000) (h_fi : (fi = -1 ∨ bd fi n)) : Ct l yX8_doneBy cX8_doneBy 6 (some .int) 4 0 0 D T [.ref o, .int (nI cn), .int lz, .int fi, .int bl] [(o, .inr (8, [.int w0, .ref g1, .ref g2, .ref g3, .ref g4, .int (nI tp), .int w6, .int w7, .int w8, .int w9, .int w10, .int w11, .int w12, .int w13, .int w14, .ref g15, .int w16, .ref g17, .int w18, .int w19, .ref g20, .int w21, .ref g22, .ref g23, .ref g24, .int w25, .int w26, .int w27, .ref g28, .ref g29, .int w30, .ref g31, .ref g32, .ref g33])), (g1, .inl (T 0, 282, .inl fa)), (g15, .inl (T 0, 10, .inl fh)), (g17, .inl (T 0, 94, .inl fk))] (q_m_doneBy T n o cn lz fi bl w0 g1 g2 g3 g4 tp w6 w7 w8 w9 w10 w11 w12 w13 w14 g15 w16 g17 w18 w19 g20 w21 g22 g23 g24 w25 w26 w27 g28 g29 w30 g31 g32 g33 fa fh fk) := by
  refine Ct.of (cc := cX8_doneBy) (maxL := 6) (ret := (some .int)) (by decide) (Nat.le_of_ble_eq_true rfl) ?_
  intro p e s m args below meth c A ls hC hnm V hl
  obtain ⟨hx, hb, hr, hml, hown, hts, hlocks⟩ := id hC
  generalize hH : s.heap = H at V ⊢
  clear hH
  have hl : lv_has ls 6 [(0, .ref o), (1, .int (nI cn)), (2, .int lz), (3, .int fi), (4, .int bl)] := hl
  generalize hlo : ([] : List Loc) = locs at V ⊢
  clear hlo
  have ms0 := ms_rf h_a
  have hn10 := h_a.1
  refine lv_aload_n hx hb dX8_doneBy_0 rfl (lv_at hl 0 rfl) ?_
  refine g_callVU (nA := 0) hC V hl.1 (m_keeps l D T o w0 g1 g2 g3 g4 tp w6 w7 w8 w9 w10 w11 w12 w13 w14 g15 w16 g17 w18 w19 g20 w21 g22 g23 g24 w25 w26 w27 g28 g29 w30 g31 g32 g33 fa fk) w_1146 w_1148 w_s53 w_9 w_1149 (by decide +kernel) rfl ⟨(Nat.le_of_ble_eq_true rfl), (Nat.le_of_ble_eq_true rfl)⟩ 0 (ci := 8) rfl rfl [0, 1, 3] rfl rfl (Nat.le_of_ble_eq_true rfl) dX8_doneBy_1 ⟨(Nat.le_of_ble_eq_true rfl), (Nat.le_of_ble_eq_true rfl)⟩ rfl (fun r w1 H locs hQ V => ?_)
  obtain ⟨gk_1, rfl, rfl, f_2⟩ := hQ
  have V : gW D T A s [(o, .inr (8, [.int w0, .ref g1, .ref g2, .ref g3, .ref g4, .int (nI tp), .int w6, .int w7, .int w8, .int w9, .int w10, .int w11, .int w12, .int w13, .int w14, .ref g15, .int w16, .ref g17, .int w18, .int w19, .ref g20, .int w21, .ref g22, .ref g23, .ref g24, .int w25, .int w26, .int w27, .ref g28, .ref g29, .int w30, .ref g31, .ref g32, .ref g33])), (g1, .inl (T 0, 282, .inl fa)), (g15, .inl (T 0, 10, .inl fh)), (g17, .inl (T 0, 94, .inl gk_1))] H locs := V _ [0, 0, 1] rfl rfl rfl (by decide +kernel) rfl
  show W p l e _ s m args below meth c H locs _ _ _ (F0 m 4 ls [])
  refine lv_aload_n hx hb dX8_doneBy_4 rfl (lv_at hl 0 rfl) ?_
  refine lv_iload_n hx hb dX8_doneBy_5 rfl (lv_at hl 1 rfl) ?_
  refine lv_iload_n hx hb dX8_doneBy_6 rfl (lv_at hl 2 rfl) ?_
  refine lv_iload_n hx hb dX8_doneBy_7 rfl (lv_at hl 3 rfl) ?_
  refine lv_iload hx hb dX8_doneBy_8 (lv_at hl 4 rfl) ?_
  refine g_callVU (nA := 4) hC V hl.1 (m_lives l D T n o cn lz fi bl w0 g1 g2 g3 g4 tp w6 w7 w8 w9 w10 w11 w12 w13 w14 g15 w16 g17 w18 w19 g20 w21 g22 g23 g24 w25 w26 w27 g28 g29 w30 g31 g32 g33 fa fh h_a (by first | assumption | omega) (by first | assumption | omega)) w_1183 w_1185 w_s60 w_9 w_1186 (by decide +kernel) rfl ⟨(Nat.le_of_ble_eq_true rfl), (Nat.le_of_ble_eq_true rfl)⟩ 0 (ci := 8) rfl rfl [0, 1, 2] rfl rfl (Nat.le_of_ble_eq_true rfl) dX8_doneBy_10 ⟨(Nat.le_of_ble_eq_true rfl), (Nat.le_of_ble_eq_true rfl)⟩ rfl (fun r w1 H locs hQ V => ?_)
  obtain ⟨z_3, bm_4, ga_5, gh_6, rfl, rfl, f_7⟩ := hQ
  have V : gW D T A s [(o, .inr (8, [.int w0, .ref g1, .ref g2, .ref g3, .ref g4, .int (nI tp), .int w6, .int w7, .int w8, .int w9, .int w10, .int w11, .int w12, .int w13, .int w14, .ref g15, .int bm_4, .ref g17, .int w18, .int w19, .ref g20, .int w21, .ref g22, .ref g23, .ref g24, .int w25, .int w26, .int w27, .ref g28, .ref g29, .int w30, .ref g31, .ref g32, .ref g33])), (g1, .inl (T 0, 282, .inl ga_5)), (g15, .inl (T 0, 10, .inl gh_6)), (g17, .inl (T 0, 94, .inl gk_1))] H locs := V _ [0, 0, 0] rfl rfl rfl (by decide +kernel) rfl
  show W p l e _ s m args below meth c H locs _ _ _ (F0 m 13 ls [.int z_3])
  have hga_5 : MS n fa ga_5 := ms_tr (by assumption) f_7
  refine lv_pop hx hb dX8_doneBy_13 rfl ?_
  refine lv_aload_n hx hb dX8_doneBy_14 rfl (lv_at hl 0 rfl) ?_
  refine g_callVU (nA := 0) hC V hl.1 (m_doneMany l D T n o w0 g1 g2 g3 g4 tp w6 w7 w8 w9 w10 w11 w12 w13 w14 g15 bm_4 g17 w18 w19 g20 w21 g22 g23 g24 w25 w26 w27 g28 g29 w30 g31 g32 g33 ga_5 hga_5.1) w_1158 w_1160 w_s56 w_9 w_1161 (by decide +kernel) rfl ⟨(Nat.le_of_ble_eq_true rfl), (Nat.le_of_ble_eq_true rfl)⟩ 0 (ci := 8) rfl rfl [0, 1] rfl rfl (Nat.le_of_ble_eq_true rfl) dX8_doneBy_15 ⟨(Nat.le_of_ble_eq_true rfl), (Nat.le_of_ble_eq_true rfl)⟩ rfl (fun r w1 H locs hQ V => ?_)
  obtain ⟨z_8, rfl, rfl⟩ := hQ
  have V : gW D T A s [(o, .inr (8, [.int w0, .ref g1, .ref g2, .ref g3, .ref g4, .int (nI tp), .int w6, .int w7, .int w8, .int w9, .int w10, .int w11, .int w12, .int w13, .int w14, .ref g15, .int bm_4, .ref g17, .int w18, .int w19, .ref g20, .int w21, .ref g22, .ref g23, .ref g24, .int w25, .int w26, .int w27, .ref g28, .ref g29, .int w30, .ref g31, .ref g32, .ref g33])), (g1, .inl (T 0, 282, .inl ga_5)), (g15, .inl (T 0, 10, .inl gh_6)), (g17, .inl (T 0, 94, .inl gk_1))] H locs := V _ [0, 0] rfl rfl rfl (by decide +kernel) rfl
  show W p l e _ s m args below meth c H locs _ _ _ (F0 m 18 ls [.int z_8])
  refine lv_istore (lv' := [(5, .int z_8), (0, .ref o), (1, .int (nI cn)), (2, .int lz), (3, .int fi), (4, .int bl)]) hx hb dX8_doneBy_18 hl (by decide) rfl (fun ls hl => ?_)
  refine lv_aload_n hx hb dX8_doneBy_20 rfl (lv_at hl 1 rfl) ?_
  refine g_callVU (nA := 0) hC V hl.1 (m_isAgain l D T o w0 g1 g2 g3 g4 tp w6 w7 w8 w9 w10 w11 w12 w13 w14 g15 bm_4 g17 w18 w19 g20 w21 g22 g23 g24 w25 w26 w27 g28 g29 w30 g31 g32 g33 ga_5 gk_1) w_1162 w_1164 w_s57 w_9 w_1165 (by decide +kernel) rfl ⟨(Nat.le_of_ble_eq_true rfl), (Nat.le_of_ble_eq_true rfl)⟩ 0 (ci := 8) rfl rfl [0, 1, 3] rfl rfl (Nat.le_of_ble_eq_true rfl) dX8_doneBy_21 ⟨(Nat.le_of_ble_eq_true rfl), (Nat.le_of_ble_eq_true rfl)⟩ rfl (fun r w1 H locs hQ V => ?_)
  obtain ⟨ga_9, rfl, rfl, f_10, f_11⟩ := hQ
  have V : gW D T A s [(o, .inr (8, [.int w0, .ref g1, .ref g2, .ref g3, .ref g4, .int (nI tp), .int w6, .int w7, .int w8, .int w9, .int w10, .int w11, .int w12, .int w13, .int w14, .ref g15, .int bm_4, .ref g17, .int w18, .int w19, .ref g20, .int w21, .ref g22, .ref g23, .ref g24, .int w25, .int w26, .int w27, .ref g28, .ref g29, .int w30, .ref g31, .ref g32, .ref g33])), (g1, .inl (T 0, 282, .inl ga_9)), (g15, .inl (T 0, 10, .inl gh_6)), (g17, .inl (T 0, 94, .inl gk_1))] H locs := V _ [0, 0, 1] rfl rfl rfl (by decide +kernel) rfl
  show W p l e _ s m args below meth c H locs _ _ _ (F0 m 24 ls [])
  have ega_9 : ga_9 = fa := funext (fun j => if h : j < 94 then (f_10 j h).trans (f_2 j h) else (f_11 j (by omega)).trans ((by assumption : MS n fa _).2 j (by omega)))
  rw [ega_9] at V
  refine lv_iload hx hb dX8_doneBy_24 (lv_at hl 0 rfl) ?_
  exact g_iret (Qr := (q_m_doneBy T n o cn lz fi bl w0 g1 g2 g3 g4 tp w6 w7 w8 w9 w10 w11 w12 w13 w14 g15 w16 g17 w18 w19 g20 w21 g22 g23 g24 w25 w26 w27 g28 g29 w30 g31 g32 g33 fa fh fk)) hC V ⟨(Nat.le_of_ble_eq_true rfl), (Nat.le_of_ble_eq_true rfl)⟩ ⟨z_8, bm_4, gh_6, gk_1, rfl, rfl⟩ dX8_doneBy_26

def q_m_refusesTime (T : Nat → ClassId) (o : Nat) (v : Int32) (w0 : Int32) (g1 : Nat) (g2 : Nat) (g3 : Nat) (g4 : Nat) (tp : Nat) (w6 : Int32) (w7 : Int32) (w8 : Int32) (w9 : Int32) (w10 : Int32) (w11 : Int32) (w12 : Int32) (w13 : Int32) (w14 : Int32) (g15 : Nat) (w16 : Int32) (g17 : Nat) (w18 : Int32) (w19 : Int32) (g20 : Nat) (w21 : Int32) (g22 : Nat) (g23 : Nat) (g24 : Nat) (w25 : Int32) (w26 : Int32) (w27 : Int32) (g28 : Nat) (g29 : Nat) (w30 : Int32) (g31 : Nat) (g32 : Nat) (g33 : Nat) (fa : Nat → Int32) : Option Value → va_W → Prop := fun rr ww => (∃ (j : Nat), rr = some (.int (nI 0)) ∧ ww = [(o, .inr (8, [.int w0, .ref g1, .ref g2, .ref g3, .ref g4, .int (nI tp), .int w6, .int w7, .int w8, .int w9, .int w10, .int w11, .int w12, .int w13, .int w14, .ref g15, .int w16, .ref g17, .int w18, .int w19, .ref g20, .int w21, .ref g22, .ref g23, .ref g24, .int w25, .int w26, .int w27, .ref g28, .ref g29, .int w30, .ref g31, .ref g32, .ref g33])), (g1, .inl (T 0, 282, .inl fa))] ∧ 1 ≤ j ∧ j ≤ 200 ∧ v = nI j) ∨ (∃ (z : Int32), rr = some (.int z) ∧ ww = [(o, .inr (8, [.int w0, .ref g1, .ref g2, .ref g3, .ref g4, .int (nI tp), .int w6, .int w7, .int w8, .int w9, .int w10, .int w11, .int w12, .int w13, .int w14, .ref g15, .int w16, .ref g17, .int w18, .int w19, .ref g20, .int w21, .ref g22, .ref g23, .ref g24, .int w25, .int w26, .int w27, .ref g28, .ref g29, .int w30, .ref g31, .ref g32, .ref g33])), (g1, .inl (T 0, 282, .inl fa))] ∧ ¬ z = 0)
set_option maxHeartbeats 4000000 in
set_option maxRecDepth 100000 in
theorem m_refusesTime (l : Launch) (D : va_G) (T : Nat → ClassId) (o : Nat) (v : Int32) (w0 : Int32) (g1 : Nat) (g2 : Nat) (g3 : Nat) (g4 : Nat) (tp : Nat) (w6 : Int32) (w7 : Int32) (w8 : Int32) (w9 : Int32) (w10 : Int32) (w11 : Int32) (w12 : Int32) (w13 : Int32) (w14 : Int32) (g15 : Nat) (w16 : Int32) (g17 : Nat) (w18 : Int32) (w19 : Int32) (g20 : Nat) (w21 : Int32) (g22 : Nat) (g23 : Nat) (g24 : Nat) (w25 : Int32) (w26 : Int32) (w27 : Int32) (g28 : Nat) (g29 : Nat) (w30 : Int32) (g31 : Nat) (g32 : Nat) (g33 : Nat) (fa : Nat → Int32) : Ct l yX8_refusesTime cX8_refusesTime 2 (some .int) 1 0 0 D T [.ref o, .int v] [(o, .inr (8, [.int w0, .ref g1, .ref g2, .ref g3, .ref g4, .int (nI tp), .int w6, .int w7, .int w8, .int w9, .int w10, .int w11, .int w12, .int w13, .int w14, .ref g15, .int w16, .ref g17, .int w18, .int w19, .ref g20, .int w21, .ref g22, .ref g23, .ref g24, .int w25, .int w26, .int w27, .ref g28, .ref g29, .int w30, .ref g31, .ref g32, .ref g33])), (g1, .inl (T 0, 282, .inl fa))] (q_m_refusesTime T o v w0 g1 g2 g3 g4 tp w6 w7 w8 w9 w10 w11 w12 w13 w14 g15 w16 g17 w18 w19 g20 w21 g22 g23 g24 w25 w26 w27 g28 g29 w30 g31 g32 g33 fa) := by
  refine Ct.of (cc := cX8_refusesTime) (maxL := 2) (ret := (some .int)) (by decide) (Nat.le_of_ble_eq_true rfl) ?_
  intro p e s m args below meth c A ls hC hnm V hl
  obtain ⟨hx, hb, hr, hml, hown, hts, hlocks⟩ := id hC
  generalize hH : s.heap = H at V ⊢
  clear hH
  have hl : lv_has ls 2 [(0, .ref o), (1, .int v)] := hl
  generalize hlo : ([] : List Loc) = locs at V ⊢
  clear hlo
  refine lv_iload_n hx hb dX8_refusesTime_0 rfl (lv_at hl 1 rfl) ?_
  refine lv_i2l (v := v.toInt64) hx hb dX8_refusesTime_1 rfl ?_
  refine lv_lconst (v := (nI 1).toInt64) hx hb dX8_refusesTime_2 (by decide +kernel) ?_
  refine lv_ldc2 (v := (200)) hx hb hown (hts _ w_1178) dX8_refusesTime_3 ?_
  refine g_vl (y := (nI 200).toInt64) (by decide +kernel) ?_
  refine g_callSU (nA := 3) hC V hl.1 (m_within l D T v (nI 1) (nI 200)) w_1023 w_1024 w_9 w_1025 (by decide +kernel) rfl ⟨(Nat.le_of_ble_eq_true rfl), (Nat.le_of_ble_eq_true rfl)⟩ [] rfl rfl (Nat.le_of_ble_eq_true rfl) dX8_refusesTime_6 ⟨(Nat.le_of_ble_eq_true rfl), (Nat.le_of_ble_eq_true rfl)⟩ rfl (fun r w1 H locs hQ V => ?_)
  rcases hQ with ⟨rfl, rfl, f_1, f_2⟩ | ⟨rfl, rfl, f_3⟩
  · have V : gW D T A s [(o, .inr (8, [.int w0, .ref g1, .ref g2, .ref g3, .ref g4, .int (nI tp), .int w6, .int w7, .int w8, .int w9, .int w10, .int w11, .int w12, .int w13, .int w14, .ref g15, .int w16, .ref g17, .int w18, .int w19, .ref g20, .int w21, .ref g22, .ref g23, .ref g24, .int w25, .int w26, .int w27, .ref g28, .ref g29, .int w30, .ref g31, .ref g32, .ref g33])), (g1, .inl (T 0, 282, .inl fa))] H locs := V _ [] rfl rfl rfl (by decide +kernel) rfl
    show W p l e _ s m args below meth c H locs _ _ _ (F0 m 9 ls [.int (nI 1)])
    obtain ⟨i, hi1, hi2, ei⟩ := g_rng (by first | decide | omega) (by first | decide | omega) f_1 f_2
    rw [ei] at hl
    refine lv_if_ne (tgt := 17) hx hb dX8_refusesTime_9 (by decide) (fun _ => ?_) (fun c => absurd (show (nI 1) = 0 from c) (by decide +kernel))
    refine lv_aload_n hx hb dX8_refusesTime_17 rfl (lv_at hl 0 rfl) ?_
    refine g_get hC V (ci := 8) uwX8 0 rfl rfl 1 (by decide) w_913 rfl rfl dX8_refusesTime_18 ?_
    refine lv_iconst (v := (nI 1)) hx hb dX8_refusesTime_21 (by decide +kernel) ?_
    refine g_iald hC V 1 rfl (vp_in_nI (by decide) (by decide)) (v := (fa 1)) (congrArg _ (nI_clamp (by decide))) dX8_refusesTime_22 ?_
    refine lv_iload_n hx hb dX8_refusesTime_23 rfl (lv_at hl 1 rfl) ?_
    refine lv_iadd hx hb dX8_refusesTime_24 ?_
    refine lv_sipush (v := (nI 9999)) hx hb dX8_refusesTime_25 (by decide +kernel) ?_
    refine lv_icmp_le (tgt := 36) hx hb dX8_refusesTime_28 (by decide) (fun c_4 => ?_) (fun c_4 => ?_)
    · skip
      refine lv_iconst (v := (nI 0)) hx hb dX8_refusesTime_36 (by decide +kernel) ?_
      exact g_iret (Qr := (q_m_refusesTime T o v w0 g1 g2 g3 g4 tp w6 w7 w8 w9 w10 w11 w12 w13 w14 g15 w16 g17 w18 w19 g20 w21 g22 g23 g24 w25 w26 w27 g28 g29 w30 g31 g32 g33 fa)) hC V ⟨(Nat.le_of_ble_eq_true rfl), (Nat.le_of_ble_eq_true rfl)⟩ (.inl ⟨i, rfl, rfl, (by assumption), (by assumption), (by assumption)⟩) dX8_refusesTime_37
    · skip
      refine lv_bipush (v := (-5)) hx hb dX8_refusesTime_31 (by decide +kernel) ?_
      refine lv_goto (tgt := 37) hx hb dX8_refusesTime_33 (by decide) ?_
      exact g_iret (Qr := (q_m_refusesTime T o v w0 g1 g2 g3 g4 tp w6 w7 w8 w9 w10 w11 w12 w13 w14 g15 w16 g17 w18 w19 g20 w21 g22 g23 g24 w25 w26 w27 g28 g29 w30 g31 g32 g33 fa)) hC V ⟨(Nat.le_of_ble_eq_true rfl), (Nat.le_of_ble_eq_true rfl)⟩ (.inr ⟨(-5), rfl, rfl, (by decide +kernel)⟩) dX8_refusesTime_37
  · have V : gW D T A s [(o, .inr (8, [.int w0, .ref g1, .ref g2, .ref g3, .ref g4, .int (nI tp), .int w6, .int w7, .int w8, .int w9, .int w10, .int w11, .int w12, .int w13, .int w14, .ref g15, .int w16, .ref g17, .int w18, .int w19, .ref g20, .int w21, .ref g22, .ref g23, .ref g24, .int w25, .int w26, .int w27, .ref g28, .ref g29, .int w30, .ref g31, .ref g32, .ref g33])), (g1, .inl (T 0, 282, .inl fa))] H locs := V _ [] rfl rfl rfl (by decide +kernel) rfl
    show W p l e _ s m args below meth c H locs _ _ _ (F0 m 9 ls [.int (nI 0)])
    refine lv_if_ne (tgt := 17) hx hb dX8_refusesTime_9 (by decide) (fun c => absurd (show (nI 0) = 0 by decide +kernel) c) (fun _ => ?_)
    refine lv_bipush (v := (-3)) hx hb dX8_refusesTime_12 (by decide +kernel) ?_
    refine lv_goto (tgt := 37) hx hb dX8_refusesTime_14 (by decide) ?_
    exact g_iret (Qr := (q_m_refusesTime T o v w0 g1 g2 g3 g4 tp w6 w7 w8 w9 w10 w11 w12 w13 w14 g15 w16 g17 w18 w19 g20 w21 g22 g23 g24 w25 w26 w27 g28 g29 w30 g31 g32 g33 fa)) hC V ⟨(Nat.le_of_ble_eq_true rfl), (Nat.le_of_ble_eq_true rfl)⟩ (.inr ⟨(-3), rfl, rfl, (by decide +kernel)⟩) dX8_refusesTime_37

def q_m_custom (T : Nat → ClassId) (n : Nat) (o : Nat) (n_ : Int32) (w0 : Int32) (g1 : Nat) (g2 : Nat) (g3 : Nat) (g4 : Nat) (tp : Nat) (w6 : Int32) (w7 : Int32) (w8 : Int32) (w9 : Int32) (w10 : Int32) (w11 : Int32) (w12 : Int32) (w13 : Int32) (w14 : Int32) (g15 : Nat) (w16 : Int32) (g17 : Nat) (w18 : Int32) (w19 : Int32) (g20 : Nat) (w21 : Int32) (g22 : Nat) (g23 : Nat) (g24 : Nat) (w25 : Int32) (w26 : Int32) (w27 : Int32) (g28 : Nat) (g29 : Nat) (w30 : Int32) (g31 : Nat) (g32 : Nat) (g33 : Nat) (fa : Nat → Int32) (fh : Nat → Int32) (fk : Nat → Int32) : Option Value → va_W → Prop := fun rr ww => (∃ (z : Int32) (bm : Int32) (gh : Nat → Int32) (gk : Nat → Int32), rr = some (.int z) ∧ ww = [(o, .inr (8, [.int (nI 0), .ref g1, .ref g2, .ref g3, .ref g4, .int (nI tp), .int w6, .int w7, .int w8, .int w9, .int w10, .int w11, .int w12, .int w13, .int w14, .ref g15, .int bm, .ref g17, .int w18, .int w19, .ref g20, .int w21, .ref g22, .ref g23, .ref g24, .int w25, .int w26, .int w27, .ref g28, .ref g29, .int w30, .ref g31, .ref g32, .ref g33])), (g1, .inl (T 0, 282, .inl fa)), (g15, .inl (T 0, 10, .inl gh)), (g17, .inl (T 0, 94, .inl gk))])
set_option maxHeartbeats 4000000 in
set_option maxRecDepth 100000 in
theorem m_custom (l : Launch) (D : va_G) (T : Nat → ClassId) (n : Nat) (o : Nat) (n_ : Int32) (w0 : Int32) (g1 : Nat) (g2 : Nat) (g3 : Nat) (g4 : Nat) (tp : Nat) (w6 : Int32) (w7 : Int32) (w8 : Int32) (w9 : Int32) (w10 : Int32) (w11 : Int32) (w12 : Int32) (w13 : Int32) (w14 : Int32) (g15 : Nat) (w16 : Int32) (g17 : Nat) (w18 : Int32) (w19 : Int32) (g20 : Nat) (w21 : Int32) (g22 : Nat) (g23 : Nat) (g24 : Nat) (w25 : Int32) (w26 : Int32) (w27 : Int32) (g28 : Nat) (g29 : Nat) (w30 : Int32) (g31 : Nat) (g32 : Nat) (g33 : Nat) (fa : Nat → Int32) (fh : Nat → Int32) (fk : Nat → Int32) (h_a : MI n fa) : Ct l yX8_custom cX8_custom 3 (some .int) 5 0 0 D T [.ref o, .int n_] [(o, .inr (8, [.int w0, .ref g1, .ref g2, .ref g3, .ref g4, .int (nI tp), .int w6, .int w7, .int w8, .int w9, .int w10, .int w11, .int w12, .int w13, .int w14, .ref g15, .int w16, .ref g17, .int w18, .int w19, .ref g20, .int w21, .ref g22, .ref g23, .ref g24, .int w25, .int w26, .int w27, .ref g28, .ref g29, .int w30, .ref g31, .ref g32, .ref g33])), (g1, .inl (T 0, 282, .inl fa)), (g15, .inl (T 0, 10, .inl fh)), (g17, .inl (T 0, 94, .inl fk))] (q_m_custom T n o n_ w0 g1 g2 g3 g4 tp w6 w7 w8 w9 w10 w11 w12 w13 w14 g15 w16 g17 w18 w19 g20 w21 g22 g23 g24 w25 w26 w27 g28 g29 w30 g31 g32 g33 fa fh fk) := by
  refine Ct.of (cc := cX8_custom) (maxL := 3) (ret := (some .int)) (by decide) (Nat.le_of_ble_eq_true rfl) ?_
  intro p e s m args below meth c A ls hC hnm V hl
  obtain ⟨hx, hb, hr, hml, hown, hts, hlocks⟩ := id hC
  generalize hH : s.heap = H at V ⊢
  clear hH
  have hl : lv_has ls 3 [(0, .ref o), (1, .int n_)] := hl
  generalize hlo : ([] : List Loc) = locs at V ⊢
  clear hlo
  have ms0 := ms_rf h_a
  have hn10 := h_a.1
  refine lv_aload_n hx hb dX8_custom_0 rfl (lv_at hl 0 rfl) ?_
  refine lv_iconst (v := (nI 0)) hx hb dX8_custom_1 (by decide +kernel) ?_
  refine g_put hC V (ci := 8) uwX8 tyX8 tyX8_ok nmX8 0 rfl rfl 0 (by decide) w_912 rfl rfl rfl rfl (Nat.le_of_ble_eq_true rfl) (ws' := [(o, .inr (8, [.int (nI 0), .ref g1, .ref g2, .ref g3, .ref g4, .int (nI tp), .int w6, .int w7, .int w8, .int w9, .int w10, .int w11, .int w12, .int w13, .int w14, .ref g15, .int w16, .ref g17, .int w18, .int w19, .ref g20, .int w21, .ref g22, .ref g23, .ref g24, .int w25, .int w26, .int w27, .ref g28, .ref g29, .int w30, .ref g31, .ref g32, .ref g33])), (g1, .inl (T 0, 282, .inl fa)), (g15, .inl (T 0, 10, .inl fh)), (g17, .inl (T 0, 94, .inl fk))]) rfl dX8_custom_2 (fun H locs V => ?_)
  refine lv_aload_n hx hb dX8_custom_5 rfl (lv_at hl 0 rfl) ?_
  refine lv_iload_n hx hb dX8_custom_6 rfl (lv_at hl 1 rfl) ?_
  refine g_callVU (nA := 1) hC V hl.1 (m_refusesTime l D T o n_ (nI 0) g1 g2 g3 g4 tp w6 w7 w8 w9 w10 w11 w12 w13 w14 g15 w16 g17 w18 w19 g20 w21 g22 g23 g24 w25 w26 w27 g28 g29 w30 g31 g32 g33 fa) w_1174 w_1176 w_s58 w_9 w_1177 (by decide +kernel) rfl ⟨(Nat.le_of_ble_eq_true rfl), (Nat.le_of_ble_eq_true rfl)⟩ 0 (ci := 8) rfl rfl [0, 1] rfl rfl (Nat.le_of_ble_eq_true rfl) dX8_custom_7 ⟨(Nat.le_of_ble_eq_true rfl), (Nat.le_of_ble_eq_true rfl)⟩ rfl (fun r w1 H locs hQ V => ?_)
  rcases hQ with ⟨j_1, rfl, rfl, f_2, f_3, f_4⟩ | ⟨z_5, rfl, rfl, f_6⟩
  · have V : gW D T A s [(o, .inr (8, [.int (nI 0), .ref g1, .ref g2, .ref g3, .ref g4, .int (nI tp), .int w6, .int w7, .int w8, .int w9, .int w10, .int w11, .int w12, .int w13, .int w14, .ref g15, .int w16, .ref g17, .int w18, .int w19, .ref g20, .int w21, .ref g22, .ref g23, .ref g24, .int w25, .int w26, .int w27, .ref g28, .ref g29, .int w30, .ref g31, .ref g32, .ref g33])), (g1, .inl (T 0, 282, .inl fa)), (g15, .inl (T 0, 10, .inl fh)), (g17, .inl (T 0, 94, .inl fk))] H locs := V _ [0, 0] rfl rfl rfl (by decide +kernel) rfl
    show W p l e _ s m args below meth c H locs _ _ _ (F0 m 10 ls [.int (nI 0)])
    rw [f_4] at hl
    refine lv_istore_n (lv' := [(2, .int (nI 0)), (0, .ref o), (1, .int (nI j_1))]) hx hb dX8_custom_10 rfl hl (by decide) rfl (fun ls hl => ?_)
    refine lv_iload_n hx hb dX8_custom_11 rfl (lv_at hl 0 rfl) ?_
    refine lv_if_eq (tgt := 19) hx hb dX8_custom_12 (by decide) (fun _ => ?_) (fun c => absurd (show (nI 0) = 0 by decide +kernel) c)
    refine lv_aload_n hx hb dX8_custom_19 rfl (lv_at hl 1 rfl) ?_
    refine lv_iload_n hx hb dX8_custom_20 rfl (lv_at hl 2 rfl) ?_
    refine lv_iconst (v := (-1)) hx hb dX8_custom_21 (by decide +kernel) ?_
    refine lv_iconst (v := (-1)) hx hb dX8_custom_22 (by decide +kernel) ?_
    refine lv_iconst (v := (nI 0)) hx hb dX8_custom_23 (by decide +kernel) ?_
    refine g_callV (wr := []) (nA := 4) hC V hl.1 (m_doneBy l D T n o j_1 (-1) (-1) (nI 0) (nI 0) g1 g2 g3 g4 tp w6 w7 w8 w9 w10 w11 w12 w13 w14 g15 w16 g17 w18 w19 g20 w21 g22 g23 g24 w25 w26 w27 g28 g29 w30 g31 g32 g33 fa fh fk h_a (by first | assumption | omega) (Or.inl rfl)) w_1179 w_1181 w_s59 w_9 w_1182 (by decide +kernel) rfl ⟨(Nat.le_of_ble_eq_true rfl), (Nat.le_of_ble_eq_true rfl)⟩ 0 (ci := 8) rfl rfl [0, 1, 2, 3] [] rfl rfl rfl rfl (by decide) (Nat.le_of_ble_eq_true rfl) dX8_custom_24 ⟨(Nat.le_of_ble_eq_true rfl), (Nat.le_of_ble_eq_true rfl)⟩ rfl (fun r w1 H locs hQ V => ?_)
    obtain ⟨z_7, bm_8, gh_9, gk_10, rfl, rfl⟩ := hQ
    have V : gW D T A s [(o, .inr (8, [.int (nI 0), .ref g1, .ref g2, .ref g3, .ref g4, .int (nI tp), .int w6, .int w7, .int w8, .int w9, .int w10, .int w11, .int w12, .int w13, .int w14, .ref g15, .int bm_8, .ref g17, .int w18, .int w19, .ref g20, .int w21, .ref g22, .ref g23, .ref g24, .int w25, .int w26, .int w27, .ref g28, .ref g29, .int w30, .ref g31, .ref g32, .ref g33])), (g1, .inl (T 0, 282, .inl fa)), (g15, .inl (T 0, 10, .inl gh_9)), (g17, .inl (T 0, 94, .inl gk_10))] H locs := V
    show W p l e _ s m args below meth c H locs _ _ _ (F0 m 27 ls [.int z_7])
    exact g_iret (Qr := (q_m_custom T n o n_ w0 g1 g2 g3 g4 tp w6 w7 w8 w9 w10 w11 w12 w13 w14 g15 w16 g17 w18 w19 g20 w21 g22 g23 g24 w25 w26 w27 g28 g29 w30 g31 g32 g33 fa fh fk)) hC V ⟨(Nat.le_of_ble_eq_true rfl), (Nat.le_of_ble_eq_true rfl)⟩ ⟨z_7, bm_8, gh_9, gk_10, rfl, rfl⟩ dX8_custom_27
  · have V : gW D T A s [(o, .inr (8, [.int (nI 0), .ref g1, .ref g2, .ref g3, .ref g4, .int (nI tp), .int w6, .int w7, .int w8, .int w9, .int w10, .int w11, .int w12, .int w13, .int w14, .ref g15, .int w16, .ref g17, .int w18, .int w19, .ref g20, .int w21, .ref g22, .ref g23, .ref g24, .int w25, .int w26, .int w27, .ref g28, .ref g29, .int w30, .ref g31, .ref g32, .ref g33])), (g1, .inl (T 0, 282, .inl fa)), (g15, .inl (T 0, 10, .inl fh)), (g17, .inl (T 0, 94, .inl fk))] H locs := V _ [0, 0] rfl rfl rfl (by decide +kernel) rfl
    show W p l e _ s m args below meth c H locs _ _ _ (F0 m 10 ls [.int z_5])
    refine lv_istore_n (lv' := [(2, .int z_5), (0, .ref o), (1, .int n_)]) hx hb dX8_custom_10 rfl hl (by decide) rfl (fun ls hl => ?_)
    refine lv_iload_n hx hb dX8_custom_11 rfl (lv_at hl 0 rfl) ?_
    refine lv_if_eq (tgt := 19) hx hb dX8_custom_12 (by decide) (fun c_11 => ?_) (fun c_11 => ?_)
    · skip
      exact (absurd c_11 (by assumption) : False).elim
    · skip
      refine lv_iload_n hx hb dX8_custom_15 rfl (lv_at hl 0 rfl) ?_
      refine lv_goto (tgt := 27) hx hb dX8_custom_16 (by decide) ?_
      exact g_iret (Qr := (q_m_custom T n o n_ w0 g1 g2 g3 g4 tp w6 w7 w8 w9 w10 w11 w12 w13 w14 g15 w16 g17 w18 w19 g20 w21 g22 g23 g24 w25 w26 w27 g28 g29 w30 g31 g32 g33 fa fh fk)) hC V ⟨(Nat.le_of_ble_eq_true rfl), (Nat.le_of_ble_eq_true rfl)⟩ ⟨z_5, w16, fh, fk, rfl, rfl⟩ dX8_custom_27

/-- where k ropes lead from i -/
def ledF (f : Nat → Int32) (i : Nat) : Nat → Nat
  | 0 => i
  | k + 1 => (f (84 + ledF f i k)).toNatClampNeg
theorem led_nx {f : Nat → Int32} {i k a j n : Nat} (h : a = ledF f i k ∧ a < n) (e : f (84 + a) = nI j) (hj : j < n) (hn : n ≤ 10) : j = ledF f i (k + 1) ∧ j < n := by
  refine ⟨?_, hj⟩
  show j = (f (84 + ledF f i k)).toNatClampNeg
  rw [← h.1, e, nI_clamp (by omega)]
theorem led_end {f : Nat → Int32} {i k k' a n : Nat} (h : a = ledF f i k ∧ a < n) (e : k = k') : a = ledF f i k' ∧ a < n := e ▸ h
theorem led_add (f : Nat → Int32) (i a : Nat) : ∀ b, ledF f (ledF f i a) b = ledF f i (a + b)
  | 0 => rfl
  | b + 1 => by
    show (f (84 + ledF f (ledF f i a) b)).toNatClampNeg = (f (84 + ledF f i (a + b))).toNatClampNeg
    rw [led_add f i a b]
theorem led_lt {f : Nat → Int32} {i n : Nat} (h : MI n f) (hi : i < n) : ∀ k, ledF f i k < n
  | 0 => hi
  | k + 1 => by
    obtain ⟨j, hj, e⟩ := mi_to h (led_lt h hi k)
    show (f (84 + ledF f i k)).toNatClampNeg < n
    have := h.1
    rw [e, nI_clamp (by omega)]; exact hj
/-- of n + 1 numbers below n two are the same -/
theorem pigeon : ∀ (n : Nat) (s : Nat → Nat), (∀ k, k ≤ n → s k < n) → ∃ a b, a < b ∧ b ≤ n ∧ s a = s b
  | 0, s, h => absurd (h 0 (Nat.le_refl 0)) (Nat.not_lt_zero _)
  | n + 1, s, h => by
    by_cases hc : ∃ k, k ≤ n ∧ s k = s (n + 1)
    · obtain ⟨k, hk, e⟩ := hc
      exact ⟨k, n + 1, by omega, Nat.le_refl _, e⟩
    · have hn : ∀ k, k ≤ n → s k ≠ s (n + 1) := fun k hk e => hc ⟨k, hk, e⟩
      obtain ⟨a, b, hab, hb, e⟩ := pigeon n (fun k => if s k = n then s (n + 1) else s k) (fun k hk => by
        have h1 := h k (by omega)
        have h2 := h (n + 1) (Nat.le_refl _)
        have h3 := hn k hk
        show (if s k = n then s (n + 1) else s k) < n
        split <;> omega)
      refine ⟨a, b, hab, by omega, ?_⟩
      have ha' := hn a (by omega)
      have hb' := hn b hb
      split at e <;> split at e <;> omega
theorem led_cyc {f : Nat → Int32} {i n : Nat} (h : MI n f) (hi : i < n) : ∃ m, 1 ≤ m ∧ m ≤ 10 ∧ ledF f (ledF f i 10) m = ledF f i 10 := by
  obtain ⟨a, b, hab, hb, e⟩ := pigeon n (ledF f i) (fun k _ => led_lt h hi k)
  have hn := h.1
  have hp : ∀ k, ledF f i (a + k) = ledF f i (b + k) := fun k => by rw [← led_add, ← led_add, e]
  refine ⟨b - a, by omega, by omega, ?_⟩
  rw [led_add]
  have := hp (10 - a)
  rw [show a + (10 - a) = 10 by omega, show b + (10 - a) = 10 + (b - a) by omega] at this
  exact this.symm

def q_m_led (T : Nat → ClassId) (n : Nat) (o : Nat) (i : Nat) (k : Nat) (w0 : Int32) (g1 : Nat) (g2 : Nat) (g3 : Nat) (g4 : Nat) (tp : Nat) (w6 : Int32) (w7 : Int32) (w8 : Int32) (w9 : Int32) (w10 : Int32) (w11 : Int32) (w12 : Int32) (w13 : Int32) (w14 : Int32) (g15 : Nat) (w16 : Int32) (g17 : Nat) (w18 : Int32) (w19 : Int32) (g20 : Nat) (w21 : Int32) (g22 : Nat) (g23 : Nat) (g24 : Nat) (w25 : Int32) (w26 : Int32) (w27 : Int32) (g28 : Nat) (g29 : Nat) (w30 : Int32) (g31 : Nat) (g32 : Nat) (g33 : Nat) (fa : Nat → Int32) : Option Value → va_W → Prop := fun rr ww => (∃ (r : Nat), rr = some (.int (nI r)) ∧ ww = [(o, .inr (8, [.int w0, .ref g1, .ref g2, .ref g3, .ref g4, .int (nI tp), .int w6, .int w7, .int w8, .int w9, .int w10, .int w11, .int w12, .int w13, .int w14, .ref g15, .int w16, .ref g17, .int w18, .int w19, .ref g20, .int w21, .ref g22, .ref g23, .ref g24, .int w25, .int w26, .int w27, .ref g28, .ref g29, .int w30, .ref g31, .ref g32, .ref g33])), (g1, .inl (T 0, 282, .inl fa))] ∧ (r = ledF fa i k ∧ r < n))
set_option maxHeartbeats 4000000 in
set_option maxRecDepth 100000 in
theorem m_led (l : Launch) (D : va_G) (T : Nat → ClassId) (n : Nat) (o : Nat) (i : Nat) (k : Nat) (w0 : Int32) (g1 : Nat) (g2 : Nat) (g3 : Nat) (g4 : Nat) (tp : Nat) (w6 : Int32) (w7 : Int32) (w8 : Int32) (w9 : Int32) (w10 : Int32) (w11 : Int32) (w12 : Int32) (w13 : Int32) (w14 : Int32) (g15 : Nat) (w16 : Int32) (g17 : Nat) (w18 : Int32) (w19 : Int32) (g20 : Nat) (w21 : Int32) (g22 : Nat) (g23 : Nat) (g24 : Nat) (w25 : Int32) (w26 : Int32) (w27 : Int32) (g28 : Nat) (g29 : Nat) (w30 : Int32) (g31 : Nat) (g32 : Nat) (g33 : Nat) (fa : Nat → Int32) (h_a : MI n fa) (h_i : i < n) (h_k : k ≤ 1000) : Ct l yX8_led cX8_led 5 (some .int) 0 0 0 D T [.ref o, .int (nI i), .int (nI k)] [(o, .inr (8, [.int w0, .ref g1, .ref g2, .ref g3, .ref g4, .int (nI tp), .int w6, .int w7, .int w8, .int w9, .int w10, .int w11, .int w12, .int w13, .int w14, .ref g15, .int w16, .ref g17, .int w18, .int w19, .ref g20, .int w21, .ref g22, .ref g23, .ref g24, .int w25, .int w26, .int w27, .ref g28, .ref g29, .int w30, .ref g31, .ref g32, .ref g33])), (g1, .inl (T 0, 282, .inl fa))] (q_m_led T n o i k w0 g1 g2 g3 g4 tp w6 w7 w8 w9 w10 w11 w12 w13 w14 g15 w16 g17 w18 w19 g20 w21 g22 g23 g24 w25 w26 w27 g28 g29 w30 g31 g32 g33 fa) := by
  refine Ct.of (cc := cX8_led) (maxL := 5) (ret := (some .int)) (by decide) (Nat.le_of_ble_eq_true rfl) ?_
  intro p e s m args below meth c A ls hC hnm V hl
  obtain ⟨hx, hb, hr, hml, hown, hts, hlocks⟩ := id hC
  generalize hH : s.heap = H at V ⊢
  clear hH
  have hl : lv_has ls 5 [(0, .ref o), (1, .int (nI i)), (2, .int (nI k))] := hl
  generalize hlo : ([] : List Loc) = locs at V ⊢
  clear hlo
  have ms0 := ms_rf h_a
  have hn10 := h_a.1
  refine lv_iload_n hx hb dX8_led_0 rfl (lv_at hl 1 rfl) ?_
  refine lv_istore_n (lv' := [(3, .int (nI i)), (0, .ref o), (1, .int (nI i)), (2, .int (nI k))]) hx hb dX8_led_1 rfl hl (by decide) rfl (fun ls hl => ?_)
  refine lv_iconst (v := (nI 0)) hx hb dX8_led_2 (by decide +kernel) ?_
  refine lv_istore (lv' := [(4, .int (nI 0)), (3, .int (nI i)), (0, .ref o), (1, .int (nI i)), (2, .int (nI k))]) hx hb dX8_led_3 hl (by decide) rfl (fun ls hl => ?_)
  have L_1 : ∀ (fu : Nat) (k5 : Nat) (at_ : Nat), k5 ≤ k → (at_ = ledF fa i k5 ∧ at_ < n) → k - k5 < fu → ∀ (H : Heap) (locs : List Loc) (ls : Array Slot), gW D T A s [(o, .inr (8, [.int w0, .ref g1, .ref g2, .ref g3, .ref g4, .int (nI tp), .int w6, .int w7, .int w8, .int w9, .int w10, .int w11, .int w12, .int w13, .int w14, .ref g15, .int w16, .ref g17, .int w18, .int w19, .ref g20, .int w21, .ref g22, .ref g23, .ref g24, .int w25, .int w26, .int w27, .ref g28, .ref g29, .int w30, .ref g31, .ref g32, .ref g33])), (g1, .inl (T 0, 282, .inl fa))] H locs → lv_has ls 5 [(4, .int (nI k5)), (3, .int (nI at_)), (0, .ref o), (1, .int (nI i)), (2, .int (nI k))] → W p l e (rmD 0 0 0) s m args below meth c H locs 0 0 (MQ below (gQ D A (q_m_led T n o i k w0 g1 g2 g3 g4 tp w6 w7 w8 w9 w10 w11 w12 w13 w14 g15 w16 g17 w18 w19 g20 w21 g22 g23 g24 w25 w26 w27 g28 g29 w30 g31 g32 g33 fa)) args s 0 0 A) (F0 m 5 ls []) := by
    intro fu_5
    induction fu_5 with
    | zero => intro k5 at_ hk5 hat hmu; exact absurd hmu (Nat.not_lt_zero _)
    | succ fu_5 ih_5 =>
      intro k5 at_ hk5 hat hmu_5 H locs ls V hl
      refine lv_iload hx hb dX8_led_5 (lv_at hl 0 rfl) ?_
      refine lv_iload_n hx hb dX8_led_7 rfl (lv_at hl 4 rfl) ?_
      refine lv_icmp_ge (tgt := 27) hx hb dX8_led_8 (by decide) (fun c_2 => ?_) (fun c_2 => ?_)
      · skip
        have c_2 := b_le (by omega) (by omega) c_2
        refine lv_iload_n hx hb dX8_led_27 rfl (lv_at hl 1 rfl) ?_
        exact g_iret (Qr := (q_m_led T n o i k w0 g1 g2 g3 g4 tp w6 w7 w8 w9 w10 w11 w12 w13 w14 g15 w16 g17 w18 w19 g20 w21 g22 g23 g24 w25 w26 w27 g28 g29 w30 g31 g32 g33 fa)) hC V ⟨(Nat.le_of_ble_eq_true rfl), (Nat.le_of_ble_eq_true rfl)⟩ ⟨at_, rfl, rfl, (led_end hat (by omega))⟩ dX8_led_28
      · skip
        have c_2 := b_nle (by omega) (by omega) c_2
        refine lv_aload_n hx hb dX8_led_11 rfl (lv_at hl 2 rfl) ?_
        refine g_get hC V (ci := 8) uwX8 0 rfl rfl 1 (by decide) w_913 rfl rfl dX8_led_12 ?_
        refine lv_bipush (v := (nI 84)) hx hb dX8_led_15 (by decide +kernel) ?_
        refine lv_iload_n hx hb dX8_led_17 rfl (lv_at hl 1 rfl) ?_
        refine lv_iadd hx hb dX8_led_18 ?_
        refine g_vi (y := (nI (84 + at_))) (nI_add _ _) ?_
        obtain ⟨j_3, hj_3, ej_3⟩ := bd_ex (mi_to h_a (i := at_) (by omega))
        refine g_iald hC V 1 rfl (vp_in_nI (by omega) (by omega)) (v := (nI j_3)) (by rw [nI_clamp (by omega)]; exact ej_3) dX8_led_19 ?_
        refine lv_istore_n (lv' := [(3, .int (nI j_3)), (4, .int (nI k5)), (0, .ref o), (1, .int (nI i)), (2, .int (nI k))]) hx hb dX8_led_20 rfl hl (by decide) rfl (fun ls hl => ?_)
        refine lv_iinc (v := (nI (k5 + 1))) (lv' := [(4, .int (nI (k5 + 1))), (3, .int (nI j_3)), (0, .ref o), (1, .int (nI i)), (2, .int (nI k))]) hx hb dX8_led_21 hl (k := 1) rfl (nI_1 _) (by decide) rfl (fun ls hl => ?_)
        refine lv_goto (tgt := 5) hx hb dX8_led_24 (by decide) ?_
        exact ih_5 (k5 + 1) j_3 (by omega) (led_nx hat (by assumption) (by omega) (by omega)) (by omega) _ _ _ V (lv_sub hl [0, 1, 2, 3, 4] rfl)
  exact L_1 _ 0 i (by omega) ⟨rfl, h_i⟩ (Nat.lt_succ_self _) _ _ _ V (lv_sub hl [0, 1, 2, 3, 4] rfl)

theorem led_go {f : Nat → Int32} {i m k r F : Nat} (hF : F = ledF f i 10) (hm : ledF f (ledF f i 10) m = ledF f i 10) (hr : r = ledF f F k) (hne : r ≠ F) (hk : k ≤ m) : k + 1 ≤ m := by
  have : k ≠ m := by
    rintro rfl
    apply hne
    rw [hr, hF, hm]
  omega

def q_m_ringOf (T : Nat → ClassId) (n : Nat) (o : Nat) (i : Nat) (w0 : Int32) (g1 : Nat) (g2 : Nat) (g3 : Nat) (g4 : Nat) (tp : Nat) (w6 : Int32) (w7 : Int32) (w8 : Int32) (w9 : Int32) (w10 : Int32) (w11 : Int32) (w12 : Int32) (w13 : Int32) (w14 : Int32) (g15 : Nat) (w16 : Int32) (g17 : Nat) (w18 : Int32) (w19 : Int32) (g20 : Nat) (w21 : Int32) (g22 : Nat) (g23 : Nat) (g24 : Nat) (w25 : Int32) (w26 : Int32) (w27 : Int32) (g28 : Nat) (g29 : Nat) (w30 : Int32) (g31 : Nat) (g32 : Nat) (g33 : Nat) (fa : Nat → Int32) : Option Value → va_W → Prop := fun rr ww => (∃ (r : Nat), rr = some (.int (nI r)) ∧ ww = [(o, .inr (8, [.int w0, .ref g1, .ref g2, .ref g3, .ref g4, .int (nI tp), .int w6, .int w7, .int w8, .int w9, .int w10, .int w11, .int w12, .int w13, .int w14, .ref g15, .int w16, .ref g17, .int w18, .int w19, .ref g20, .int w21, .ref g22, .ref g23, .ref g24, .int w25, .int w26, .int w27, .ref g28, .ref g29, .int w30, .ref g31, .ref g32, .ref g33])), (g1, .inl (T 0, 282, .inl fa))] ∧ r ≤ 10)
set_option maxHeartbeats 4000000 in
set_option maxRecDepth 100000 in
theorem m_ringOf (l : Launch) (D : va_G) (T : Nat → ClassId) (n : Nat) (o : Nat) (i : Nat) (w0 : Int32) (g1 : Nat) (g2 : Nat) (g3 : Nat) (g4 : Nat) (tp : Nat) (w6 : Int32) (w7 : Int32) (w8 : Int32) (w9 : Int32) (w10 : Int32) (w11 : Int32) (w12 : Int32) (w13 : Int32) (w14 : Int32) (g15 : Nat) (w16 : Int32) (g17 : Nat) (w18 : Int32) (w19 : Int32) (g20 : Nat) (w21 : Int32) (g22 : Nat) (g23 : Nat) (g24 : Nat) (w25 : Int32) (w26 : Int32) (w27 : Int32) (g28 : Nat) (g29 : Nat) (w30 : Int32) (g31 : Nat) (g32 : Nat) (g33 : Nat) (fa : Nat → Int32) (h_a : MI n fa) (h_i : i < n) : Ct l yX8_ringOf cX8_ringOf 4 (some .int) 1 0 0 D T [.ref o, .int (nI i)] [(o, .inr (8, [.int w0, .ref g1, .ref g2, .ref g3, .ref g4, .int (nI tp), .int w6, .int w7, .int w8, .int w9, .int w10, .int w11, .int w12, .int w13, .int w14, .ref g15, .int w16, .ref g17, .int w18, .int w19, .ref g20, .int w21, .ref g22, .ref g23, .ref g24, .int w25, .int w26, .int w27, .ref g28, .ref g29, .int w30, .ref g31, .ref g32, .ref g33])), (g1, .inl (T 0, 282, .inl fa))] (q_m_ringOf T n o i w0 g1 g2 g3 g4 tp w6 w7 w8 w9 w10 w11 w12 w13 w14 g15 w16 g17 w18 w19 g20 w21 g22 g23 g24 w25 w26 w27 g28 g29 w30 g31 g32 g33 fa) := by
  refine Ct.of (cc := cX8_ringOf) (maxL := 4) (ret := (some .int)) (by decide) (Nat.le_of_ble_eq_true rfl) ?_
  intro p e s m args below meth c A ls hC hnm V hl
  obtain ⟨hx, hb, hr, hml, hown, hts, hlocks⟩ := id hC
  generalize hH : s.heap = H at V ⊢
  clear hH
  have hl : lv_has ls 4 [(0, .ref o), (1, .int (nI i))] := hl
  generalize hlo : ([] : List Loc) = locs at V ⊢
  clear hlo
  have ms0 := ms_rf h_a
  have hn10 := h_a.1
  obtain ⟨mq, hm1, hm2, hm3⟩ := led_cyc h_a h_i
  refine lv_aload_n hx hb dX8_ringOf_0 rfl (lv_at hl 0 rfl) ?_
  refine lv_iload_n hx hb dX8_ringOf_1 rfl (lv_at hl 1 rfl) ?_
  refine lv_bipush (v := (nI 10)) hx hb dX8_ringOf_2 (by decide +kernel) ?_
  refine g_callV (wr := []) (nA := 2) hC V hl.1 (m_led l D T n o i 10 w0 g1 g2 g3 g4 tp w6 w7 w8 w9 w10 w11 w12 w13 w14 g15 w16 g17 w18 w19 g20 w21 g22 g23 g24 w25 w26 w27 g28 g29 w30 g31 g32 g33 fa h_a (by first | assumption | omega) (by first | assumption | omega)) w_1204 w_1206 w_s62 w_9 w_1207 (by decide +kernel) rfl ⟨(Nat.le_of_ble_eq_true rfl), (Nat.le_of_ble_eq_true rfl)⟩ 0 (ci := 8) rfl rfl [0, 1] [] rfl rfl rfl rfl (by decide) (Nat.le_of_ble_eq_true rfl) dX8_ringOf_4 ⟨(Nat.le_of_ble_eq_true rfl), (Nat.le_of_ble_eq_true rfl)⟩ rfl (fun r w1 H locs hQ V => ?_)
  obtain ⟨F, rfl, rfl, f_1⟩ := hQ
  have V : gW D T A s [(o, .inr (8, [.int w0, .ref g1, .ref g2, .ref g3, .ref g4, .int (nI tp), .int w6, .int w7, .int w8, .int w9, .int w10, .int w11, .int w12, .int w13, .int w14, .ref g15, .int w16, .ref g17, .int w18, .int w19, .ref g20, .int w21, .ref g22, .ref g23, .ref g24, .int w25, .int w26, .int w27, .ref g28, .ref g29, .int w30, .ref g31, .ref g32, .ref g33])), (g1, .inl (T 0, 282, .inl fa))] H locs := V
  show W p l e _ s m args below meth c H locs _ _ _ (F0 m 7 ls [.int (nI F)])
  have hF := f_1
  refine lv_istore_n (lv' := [(2, .int (nI F)), (0, .ref o), (1, .int (nI i))]) hx hb dX8_ringOf_7 rfl hl (by decide) rfl (fun ls hl => ?_)
  refine lv_iconst (v := (nI 1)) hx hb dX8_ringOf_8 (by decide +kernel) ?_
  refine lv_istore_n (lv' := [(3, .int (nI 1)), (2, .int (nI F)), (0, .ref o), (1, .int (nI i))]) hx hb dX8_ringOf_9 rfl hl (by decide) rfl (fun ls hl => ?_)
  have L_2 : ∀ (fu : Nat) (k3 : Nat), k3 ≤ mq → 11 - k3 < fu → ∀ (H : Heap) (locs : List Loc) (ls : Array Slot), gW D T A s [(o, .inr (8, [.int w0, .ref g1, .ref g2, .ref g3, .ref g4, .int (nI tp), .int w6, .int w7, .int w8, .int w9, .int w10, .int w11, .int w12, .int w13, .int w14, .ref g15, .int w16, .ref g17, .int w18, .int w19, .ref g20, .int w21, .ref g22, .ref g23, .ref g24, .int w25, .int w26, .int w27, .ref g28, .ref g29, .int w30, .ref g31, .ref g32, .ref g33])), (g1, .inl (T 0, 282, .inl fa))] H locs → lv_has ls 4 [(3, .int (nI k3)), (2, .int (nI F)), (0, .ref o), (1, .int (nI i))] → W p l e (rmD 1 0 0) s m args below meth c H locs 0 0 (MQ below (gQ D A (q_m_ringOf T n o i w0 g1 g2 g3 g4 tp w6 w7 w8 w9 w10 w11 w12 w13 w14 g15 w16 g17 w18 w19 g20 w21 g22 g23 g24 w25 w26 w27 g28 g29 w30 g31 g32 g33 fa)) args s 0 0 A) (F0 m 10 ls []) := by
    intro fu_10
    induction fu_10 with
    | zero => intro k3 hk3 hmu; exact absurd hmu (Nat.not_lt_zero _)
    | succ fu_10 ih_10 =>
      intro k3 hk3 hmu_10 H locs ls V hl
      refine lv_aload_n hx hb dX8_ringOf_10 rfl (lv_at hl 2 rfl) ?_
      refine lv_iload_n hx hb dX8_ringOf_11 rfl (lv_at hl 1 rfl) ?_
      refine lv_iload_n hx hb dX8_ringOf_12 rfl (lv_at hl 0 rfl) ?_
      refine g_callV (wr := []) (nA := 2) hC V hl.1 (m_led l D T n o F k3 w0 g1 g2 g3 g4 tp w6 w7 w8 w9 w10 w11 w12 w13 w14 g15 w16 g17 w18 w19 g20 w21 g22 g23 g24 w25 w26 w27 g28 g29 w30 g31 g32 g33 fa h_a (by first | assumption | omega) (by first | assumption | omega)) w_1204 w_1206 w_s62 w_9 w_1207 (by decide +kernel) rfl ⟨(Nat.le_of_ble_eq_true rfl), (Nat.le_of_ble_eq_true rfl)⟩ 0 (ci := 8) rfl rfl [0, 1] [] rfl rfl rfl rfl (by decide) (Nat.le_of_ble_eq_true rfl) dX8_ringOf_13 ⟨(Nat.le_of_ble_eq_true rfl), (Nat.le_of_ble_eq_true rfl)⟩ rfl (fun r w1 H locs hQ V => ?_)
      obtain ⟨r_3, rfl, rfl, f_4⟩ := hQ
      have V : gW D T A s [(o, .inr (8, [.int w0, .ref g1, .ref g2, .ref g3, .ref g4, .int (nI tp), .int w6, .int w7, .int w8, .int w9, .int w10, .int w11, .int w12, .int w13, .int w14, .ref g15, .int w16, .ref g17, .int w18, .int w19, .ref g20, .int w21, .ref g22, .ref g23, .ref g24, .int w25, .int w26, .int w27, .ref g28, .ref g29, .int w30, .ref g31, .ref g32, .ref g33])), (g1, .inl (T 0, 282, .inl fa))] H locs := V
      show W p l e _ s m args below meth c H locs _ _ _ (F0 m 16 ls [.int (nI r_3)])
      have hr9 := f_4
      refine lv_iload_n hx hb dX8_ringOf_16 rfl (lv_at hl 1 rfl) ?_
      refine lv_icmp_eq (tgt := 26) hx hb dX8_ringOf_17 (by decide) (fun c_5 => ?_) (fun c_5 => ?_)
      · skip
        have c_5 := b_eq (by omega) (by omega) c_5
        refine lv_iload_n hx hb dX8_ringOf_26 rfl (lv_at hl 0 rfl) ?_
        exact g_iret (Qr := (q_m_ringOf T n o i w0 g1 g2 g3 g4 tp w6 w7 w8 w9 w10 w11 w12 w13 w14 g15 w16 g17 w18 w19 g20 w21 g22 g23 g24 w25 w26 w27 g28 g29 w30 g31 g32 g33 fa)) hC V ⟨(Nat.le_of_ble_eq_true rfl), (Nat.le_of_ble_eq_true rfl)⟩ ⟨k3, rfl, rfl, (by first | assumption | omega)⟩ dX8_ringOf_27
      · skip
        have c_5 := b_ne (by omega) (by omega) c_5
        have hgo := led_go hF.1 hm3 hr9.1 c_5 hk3
        refine lv_iinc (v := (nI (k3 + 1))) (lv' := [(3, .int (nI (k3 + 1))), (2, .int (nI F)), (0, .ref o), (1, .int (nI i))]) hx hb dX8_ringOf_20 hl (k := 0) rfl (nI_1 _) (by decide) rfl (fun ls hl => ?_)
        refine lv_goto (tgt := 10) hx hb dX8_ringOf_23 (by decide) ?_
        exact ih_10 (k3 + 1) hgo (by omega) _ _ _ V (lv_sub hl [0, 1, 2, 3] rfl)
  exact L_2 _ 1 (by omega) (Nat.lt_succ_self _) _ _ _ V (lv_sub hl [0, 1, 2, 3] rfl)

def q_m_ring (T : Nat → ClassId) (n : Nat) (o : Nat) (i : Int32) (w0 : Int32) (g1 : Nat) (g2 : Nat) (g3 : Nat) (g4 : Nat) (tp : Nat) (w6 : Int32) (w7 : Int32) (w8 : Int32) (w9 : Int32) (w10 : Int32) (w11 : Int32) (w12 : Int32) (w13 : Int32) (w14 : Int32) (g15 : Nat) (w16 : Int32) (g17 : Nat) (w18 : Int32) (w19 : Int32) (g20 : Nat) (w21 : Int32) (g22 : Nat) (g23 : Nat) (g24 : Nat) (w25 : Int32) (w26 : Int32) (w27 : Int32) (g28 : Nat) (g29 : Nat) (w30 : Int32) (g31 : Nat) (g32 : Nat) (g33 : Nat) (fa : Nat → Int32) : Option Value → va_W → Prop := fun rr ww => (∃ (z : Int32), rr = some (.int z) ∧ ww = [(o, .inr (8, [.int (nI 0), .ref g1, .ref g2, .ref g3, .ref g4, .int (nI tp), .int w6, .int w7, .int w8, .int w9, .int w10, .int w11, .int w12, .int w13, .int w14, .ref g15, .int w16, .ref g17, .int w18, .int w19, .ref g20, .int w21, .ref g22, .ref g23, .ref g24, .int w25, .int w26, .int w27, .ref g28, .ref g29, .int w30, .ref g31, .ref g32, .ref g33])), (g1, .inl (T 0, 282, .inl fa))])
set_option maxHeartbeats 4000000 in
set_option maxRecDepth 100000 in
theorem m_ring (l : Launch) (D : va_G) (T : Nat → ClassId) (n : Nat) (o : Nat) (i : Int32) (w0 : Int32) (g1 : Nat) (g2 : Nat) (g3 : Nat) (g4 : Nat) (tp : Nat) (w6 : Int32) (w7 : Int32) (w8 : Int32) (w9 : Int32) (w10 : Int32) (w11 : Int32) (w12 : Int32) (w13 : Int32) (w14 : Int32) (g15 : Nat) (w16 : Int32) (g17 : Nat) (w18 : Int32) (w19 : Int32) (g20 : Nat) (w21 : Int32) (g22 : Nat) (g23 : Nat) (g24 : Nat) (w25 : Int32) (w26 : Int32) (w27 : Int32) (g28 : Nat) (g29 : Nat) (w30 : Int32) (g31 : Nat) (g32 : Nat) (g33 : Nat) (fa : Nat → Int32) (h_a : MI n fa) : Ct l yX8_ring cX8_ring 2 (some .int) 2 0 0 D T [.ref o, .int i] [(o, .inr (8, [.int w0, .ref g1, .ref g2, .ref g3, .ref g4, .int (nI tp), .int w6, .int w7, .int w8, .int w9, .int w10, .int w11, .int w12, .int w13, .int w14, .ref g15, .int w16, .ref g17, .int w18, .int w19, .ref g20, .int w21, .ref g22, .ref g23, .ref g24, .int w25, .int w26, .int w27, .ref g28, .ref g29, .int w30, .ref g31, .ref g32, .ref g33])), (g1, .inl (T 0, 282, .inl fa))] (q_m_ring T n o i w0 g1 g2 g3 g4 tp w6 w7 w8 w9 w10 w11 w12 w13 w14 g15 w16 g17 w18 w19 g20 w21 g22 g23 g24 w25 w26 w27 g28 g29 w30 g31 g32 g33 fa) := by
  refine Ct.of (cc := cX8_ring) (maxL := 2) (ret := (some .int)) (by decide) (Nat.le_of_ble_eq_true rfl) ?_
  intro p e s m args below meth c A ls hC hnm V hl
  obtain ⟨hx, hb, hr, hml, hown, hts, hlocks⟩ := id hC
  generalize hH : s.heap = H at V ⊢
  clear hH
  have hl : lv_has ls 2 [(0, .ref o), (1, .int i)] := hl
  generalize hlo : ([] : List Loc) = locs at V ⊢
  clear hlo
  have ms0 := ms_rf h_a
  have hn10 := h_a.1
  refine lv_aload_n hx hb dX8_ring_0 rfl (lv_at hl 0 rfl) ?_
  refine lv_iconst (v := (nI 0)) hx hb dX8_ring_1 (by decide +kernel) ?_
  refine g_put hC V (ci := 8) uwX8 tyX8 tyX8_ok nmX8 0 rfl rfl 0 (by decide) w_912 rfl rfl rfl rfl (Nat.le_of_ble_eq_true rfl) (ws' := [(o, .inr (8, [.int (nI 0), .ref g1, .ref g2, .ref g3, .ref g4, .int (nI tp), .int w6, .int w7, .int w8, .int w9, .int w10, .int w11, .int w12, .int w13, .int w14, .ref g15, .int w16, .ref g17, .int w18, .int w19, .ref g20, .int w21, .ref g22, .ref g23, .ref g24, .int w25, .int w26, .int w27, .ref g28, .ref g29, .int w30, .ref g31, .ref g32, .ref g33])), (g1, .inl (T 0, 282, .inl fa))]) rfl dX8_ring_2 (fun H locs V => ?_)
  refine lv_aload_n hx hb dX8_ring_5 rfl (lv_at hl 0 rfl) ?_
  refine lv_iload_n hx hb dX8_ring_6 rfl (lv_at hl 1 rfl) ?_
  refine g_callV (wr := []) (nA := 1) hC V hl.1 (m_isSmith l D T n o i (nI 0) g1 g2 g3 g4 tp w6 w7 w8 w9 w10 w11 w12 w13 w14 g15 w16 g17 w18 w19 g20 w21 g22 g23 g24 w25 w26 w27 g28 g29 w30 g31 g32 g33 fa h_a) w_1083 w_1085 w_s46 w_9 w_1086 (by decide +kernel) rfl ⟨(Nat.le_of_ble_eq_true rfl), (Nat.le_of_ble_eq_true rfl)⟩ 0 (ci := 8) rfl rfl [0, 1] [] rfl rfl rfl rfl (by decide) (Nat.le_of_ble_eq_true rfl) dX8_ring_7 ⟨(Nat.le_of_ble_eq_true rfl), (Nat.le_of_ble_eq_true rfl)⟩ rfl (fun r w1 H locs hQ V => ?_)
  rcases hQ with ⟨j_1, rfl, rfl, f_2, f_3⟩ | ⟨rfl, rfl⟩
  · have V : gW D T A s [(o, .inr (8, [.int (nI 0), .ref g1, .ref g2, .ref g3, .ref g4, .int (nI tp), .int w6, .int w7, .int w8, .int w9, .int w10, .int w11, .int w12, .int w13, .int w14, .ref g15, .int w16, .ref g17, .int w18, .int w19, .ref g20, .int w21, .ref g22, .ref g23, .ref g24, .int w25, .int w26, .int w27, .ref g28, .ref g29, .int w30, .ref g31, .ref g32, .ref g33])), (g1, .inl (T 0, 282, .inl fa))] H locs := V
    show W p l e _ s m args below meth c H locs _ _ _ (F0 m 10 ls [.int (nI 1)])
    rw [f_2] at hl
    refine lv_if_eq (tgt := 21) hx hb dX8_ring_10 (by decide) (fun c => absurd (show (nI 1) = 0 from c) (by decide +kernel)) (fun _ => ?_)
    refine lv_aload_n hx hb dX8_ring_13 rfl (lv_at hl 0 rfl) ?_
    refine lv_iload_n hx hb dX8_ring_14 rfl (lv_at hl 1 rfl) ?_
    refine g_callV (wr := []) (nA := 1) hC V hl.1 (m_ringOf l D T n o j_1 (nI 0) g1 g2 g3 g4 tp w6 w7 w8 w9 w10 w11 w12 w13 w14 g15 w16 g17 w18 w19 g20 w21 g22 g23 g24 w25 w26 w27 g28 g29 w30 g31 g32 g33 fa h_a (by first | assumption | omega)) w_1200 w_1202 w_s61 w_9 w_1203 (by decide +kernel) rfl ⟨(Nat.le_of_ble_eq_true rfl), (Nat.le_of_ble_eq_true rfl)⟩ 0 (ci := 8) rfl rfl [0, 1] [] rfl rfl rfl rfl (by decide) (Nat.le_of_ble_eq_true rfl) dX8_ring_15 ⟨(Nat.le_of_ble_eq_true rfl), (Nat.le_of_ble_eq_true rfl)⟩ rfl (fun r w1 H locs hQ V => ?_)
    obtain ⟨r_4, rfl, rfl, f_5⟩ := hQ
    have V : gW D T A s [(o, .inr (8, [.int (nI 0), .ref g1, .ref g2, .ref g3, .ref g4, .int (nI tp), .int w6, .int w7, .int w8, .int w9, .int w10, .int w11, .int w12, .int w13, .int w14, .ref g15, .int w16, .ref g17, .int w18, .int w19, .ref g20, .int w21, .ref g22, .ref g23, .ref g24, .int w25, .int w26, .int w27, .ref g28, .ref g29, .int w30, .ref g31, .ref g32, .ref g33])), (g1, .inl (T 0, 282, .inl fa))] H locs := V
    show W p l e _ s m args below meth c H locs _ _ _ (F0 m 18 ls [.int (nI r_4)])
    refine lv_goto (tgt := 23) hx hb dX8_ring_18 (by decide) ?_
    exact g_iret (Qr := (q_m_ring T n o i w0 g1 g2 g3 g4 tp w6 w7 w8 w9 w10 w11 w12 w13 w14 g15 w16 g17 w18 w19 g20 w21 g22 g23 g24 w25 w26 w27 g28 g29 w30 g31 g32 g33 fa)) hC V ⟨(Nat.le_of_ble_eq_true rfl), (Nat.le_of_ble_eq_true rfl)⟩ ⟨(nI r_4), rfl, rfl⟩ dX8_ring_23
  · have V : gW D T A s [(o, .inr (8, [.int (nI 0), .ref g1, .ref g2, .ref g3, .ref g4, .int (nI tp), .int w6, .int w7, .int w8, .int w9, .int w10, .int w11, .int w12, .int w13, .int w14, .ref g15, .int w16, .ref g17, .int w18, .int w19, .ref g20, .int w21, .ref g22, .ref g23, .ref g24, .int w25, .int w26, .int w27, .ref g28, .ref g29, .int w30, .ref g31, .ref g32, .ref g33])), (g1, .inl (T 0, 282, .inl fa))] H locs := V
    show W p l e _ s m args below meth c H locs _ _ _ (F0 m 10 ls [.int (nI 0)])
    refine lv_if_eq (tgt := 21) hx hb dX8_ring_10 (by decide) (fun _ => ?_) (fun c => absurd (show (nI 0) = 0 by decide +kernel) c)
    refine lv_bipush (v := (-2)) hx hb dX8_ring_21 (by decide +kernel) ?_
    exact g_iret (Qr := (q_m_ring T n o i w0 g1 g2 g3 g4 tp w6 w7 w8 w9 w10 w11 w12 w13 w14 g15 w16 g17 w18 w19 g20 w21 g22 g23 g24 w25 w26 w27 g28 g29 w30 g31 g32 g33 fa)) hC V ⟨(Nat.le_of_ble_eq_true rfl), (Nat.le_of_ble_eq_true rfl)⟩ ⟨(-2), rfl, rfl⟩ dX8_ring_23

def q_m_rings (T : Nat → ClassId) (n : Nat) (o : Nat) (w0 : Int32) (g1 : Nat) (g2 : Nat) (g3 : Nat) (g4 : Nat) (tp : Nat) (w6 : Int32) (w7 : Int32) (w8 : Int32) (w9 : Int32) (w10 : Int32) (w11 : Int32) (w12 : Int32) (w13 : Int32) (w14 : Int32) (g15 : Nat) (w16 : Int32) (g17 : Nat) (w18 : Int32) (w19 : Int32) (g20 : Nat) (w21 : Int32) (g22 : Nat) (g23 : Nat) (g24 : Nat) (w25 : Int32) (w26 : Int32) (w27 : Int32) (g28 : Nat) (g29 : Nat) (w30 : Int32) (g31 : Nat) (g32 : Nat) (g33 : Nat) (fa : Nat → Int32) : Option Value → va_W → Prop := fun rr ww => (∃ (z : Int32), rr = some (.int z) ∧ ww = [(o, .inr (8, [.int (nI 0), .ref g1, .ref g2, .ref g3, .ref g4, .int (nI tp), .int w6, .int w7, .int w8, .int w9, .int w10, .int w11, .int w12, .int w13, .int w14, .ref g15, .int w16, .ref g17, .int w18, .int w19, .ref g20, .int w21, .ref g22, .ref g23, .ref g24, .int w25, .int w26, .int w27, .ref g28, .ref g29, .int w30, .ref g31, .ref g32, .ref g33])), (g1, .inl (T 0, 282, .inl fa))])
set_option maxHeartbeats 4000000 in
set_option maxRecDepth 100000 in
theorem m_rings (l : Launch) (D : va_G) (T : Nat → ClassId) (n : Nat) (o : Nat) (w0 : Int32) (g1 : Nat) (g2 : Nat) (g3 : Nat) (g4 : Nat) (tp : Nat) (w6 : Int32) (w7 : Int32) (w8 : Int32) (w9 : Int32) (w10 : Int32) (w11 : Int32) (w12 : Int32) (w13 : Int32) (w14 : Int32) (g15 : Nat) (w16 : Int32) (g17 : Nat) (w18 : Int32) (w19 : Int32) (g20 : Nat) (w21 : Int32) (g22 : Nat) (g23 : Nat) (g24 : Nat) (w25 : Int32) (w26 : Int32) (w27 : Int32) (g28 : Nat) (g29 : Nat) (w30 : Int32) (g31 : Nat) (g32 : Nat) (g33 : Nat) (fa : Nat → Int32) (h_a : MI n fa) : Ct l yX8_rings cX8_rings 5 (some .int) 2 0 0 D T [.ref o] [(o, .inr (8, [.int w0, .ref g1, .ref g2, .ref g3, .ref g4, .int (nI tp), .int w6, .int w7, .int w8, .int w9, .int w10, .int w11, .int w12, .int w13, .int w14, .ref g15, .int w16, .ref g17, .int w18, .int w19, .ref g20, .int w21, .ref g22, .ref g23, .ref g24, .int w25, .int w26, .int w27, .ref g28, .ref g29, .int w30, .ref g31, .ref g32, .ref g33])), (g1, .inl (T 0, 282, .inl fa))] (q_m_rings T n o w0 g1 g2 g3 g4 tp w6 w7 w8 w9 w10 w11 w12 w13 w14 g15 w16 g17 w18 w19 g20 w21 g22 g23 g24 w25 w26 w27 g28 g29 w30 g31 g32 g33 fa) := by
  refine Ct.of (cc := cX8_rings) (maxL := 5) (ret := (some .int)) (by decide) (Nat.le_of_ble_eq_true rfl) ?_
  intro p e s m args below meth c A ls hC hnm V hl
  obtain ⟨hx, hb, hr, hml, hown, hts, hlocks⟩ := id hC
  generalize hH : s.heap = H at V ⊢
  clear hH
  have hl : lv_has ls 5 [(0, .ref o)] := hl
  generalize hlo : ([] : List Loc) = locs at V ⊢
  clear hlo
  have ms0 := ms_rf h_a
  have hn10 := h_a.1
  refine lv_aload_n hx hb dX8_rings_0 rfl (lv_at hl 0 rfl) ?_
  refine lv_iconst (v := (nI 0)) hx hb dX8_rings_1 (by decide +kernel) ?_
  refine g_put hC V (ci := 8) uwX8 tyX8 tyX8_ok nmX8 0 rfl rfl 0 (by decide) w_912 rfl rfl rfl rfl (Nat.le_of_ble_eq_true rfl) (ws' := [(o, .inr (8, [.int (nI 0), .ref g1, .ref g2, .ref g3, .ref g4, .int (nI tp), .int w6, .int w7, .int w8, .int w9, .int w10, .int w11, .int w12, .int w13, .int w14, .ref g15, .int w16, .ref g17, .int w18, .int w19, .ref g20, .int w21, .ref g22, .ref g23, .ref g24, .int w25, .int w26, .int w27, .ref g28, .ref g29, .int w30, .ref g31, .ref g32, .ref g33])), (g1, .inl (T 0, 282, .inl fa))]) rfl dX8_rings_2 (fun H locs V => ?_)
  refine lv_iconst (v := (nI 0)) hx hb dX8_rings_5 (by decide +kernel) ?_
  refine lv_istore_n (lv' := [(1, .int (nI 0)), (0, .ref o)]) hx hb dX8_rings_6 rfl hl (by decide) rfl (fun ls hl => ?_)
  refine lv_iconst (v := (nI 0)) hx hb dX8_rings_7 (by decide +kernel) ?_
  refine lv_istore_n (lv' := [(2, .int (nI 0)), (1, .int (nI 0)), (0, .ref o)]) hx hb dX8_rings_8 rfl hl (by decide) rfl (fun ls hl => ?_)
  have L_1 : ∀ (fu : Nat) (k9 : Nat) (x9_1 : Int32), k9 ≤ n → n - k9 < fu → ∀ (H : Heap) (locs : List Loc) (ls : Array Slot), gW D T A s [(o, .inr (8, [.int (nI 0), .ref g1, .ref g2, .ref g3, .ref g4, .int (nI tp), .int w6, .int w7, .int w8, .int w9, .int w10, .int w11, .int w12, .int w13, .int w14, .ref g15, .int w16, .ref g17, .int w18, .int w19, .ref g20, .int w21, .ref g22, .ref g23, .ref g24, .int w25, .int w26, .int w27, .ref g28, .ref g29, .int w30, .ref g31, .ref g32, .ref g33])), (g1, .inl (T 0, 282, .inl fa))] H locs → lv_has ls 5 [(2, .int (nI k9)), (1, .int x9_1), (0, .ref o)] → W p l e (rmD 2 0 0) s m args below meth c H locs 0 0 (MQ below (gQ D A (q_m_rings T n o w0 g1 g2 g3 g4 tp w6 w7 w8 w9 w10 w11 w12 w13 w14 g15 w16 g17 w18 w19 g20 w21 g22 g23 g24 w25 w26 w27 g28 g29 w30 g31 g32 g33 fa)) args s 0 0 A) (F0 m 9 ls []) := by
    intro fu_9
    induction fu_9 with
    | zero => intro k9 x9_1 hk9 hmu; exact absurd hmu (Nat.not_lt_zero _)
    | succ fu_9 ih_9 =>
      intro k9 x9_1 hk9 hmu_9 H locs ls V hl
      refine lv_iload_n hx hb dX8_rings_9 rfl (lv_at hl 0 rfl) ?_
      refine lv_aload_n hx hb dX8_rings_10 rfl (lv_at hl 2 rfl) ?_
      refine g_get hC V (ci := 8) uwX8 0 rfl rfl 1 (by decide) w_913 rfl rfl dX8_rings_11 ?_
      refine lv_iconst (v := (nI 0)) hx hb dX8_rings_14 (by decide +kernel) ?_
      refine g_iald hC V 1 rfl (vp_in_nI (by decide) (by decide)) (v := (nI n)) (by rw [nI_clamp (by decide)]; first | rfl | exact h_a.2.1) dX8_rings_15 ?_
      refine lv_icmp_ge (tgt := 94) hx hb dX8_rings_16 (by decide) (fun c_2 => ?_) (fun c_2 => ?_)
      · skip
        have c_2 := b_le (by omega) (by omega) c_2
        refine lv_iload_n hx hb dX8_rings_94 rfl (lv_at hl 1 rfl) ?_
        exact g_iret (Qr := (q_m_rings T n o w0 g1 g2 g3 g4 tp w6 w7 w8 w9 w10 w11 w12 w13 w14 g15 w16 g17 w18 w19 g20 w21 g22 g23 g24 w25 w26 w27 g28 g29 w30 g31 g32 g33 fa)) hC V ⟨(Nat.le_of_ble_eq_true rfl), (Nat.le_of_ble_eq_true rfl)⟩ ⟨x9_1, rfl, rfl⟩ dX8_rings_95
      · skip
        have c_2 := b_nle (by omega) (by omega) c_2
        refine lv_aload_n hx hb dX8_rings_19 rfl (lv_at hl 2 rfl) ?_
        refine lv_iload_n hx hb dX8_rings_20 rfl (lv_at hl 0 rfl) ?_
        refine lv_aload_n hx hb dX8_rings_21 rfl (lv_at hl 2 rfl) ?_
        refine lv_iload_n hx hb dX8_rings_22 rfl (lv_at hl 0 rfl) ?_
        refine g_callV (wr := []) (nA := 1) hC V hl.1 (m_ringOf l D T n o k9 (nI 0) g1 g2 g3 g4 tp w6 w7 w8 w9 w10 w11 w12 w13 w14 g15 w16 g17 w18 w19 g20 w21 g22 g23 g24 w25 w26 w27 g28 g29 w30 g31 g32 g33 fa h_a (by first | assumption | omega)) w_1200 w_1202 w_s61 w_9 w_1203 (by decide +kernel) rfl ⟨(Nat.le_of_ble_eq_true rfl), (Nat.le_of_ble_eq_true rfl)⟩ 0 (ci := 8) rfl rfl [0, 1] [] rfl rfl rfl rfl (by decide) (Nat.le_of_ble_eq_true rfl) dX8_rings_23 ⟨(Nat.le_of_ble_eq_true rfl), (Nat.le_of_ble_eq_true rfl)⟩ rfl (fun r w1 H locs hQ V => ?_)
        obtain ⟨r_3, rfl, rfl, f_4⟩ := hQ
        have V : gW D T A s [(o, .inr (8, [.int (nI 0), .ref g1, .ref g2, .ref g3, .ref g4, .int (nI tp), .int w6, .int w7, .int w8, .int w9, .int w10, .int w11, .int w12, .int w13, .int w14, .ref g15, .int w16, .ref g17, .int w18, .int w19, .ref g20, .int w21, .ref g22, .ref g23, .ref g24, .int w25, .int w26, .int w27, .ref g28, .ref g29, .int w30, .ref g31, .ref g32, .ref g33])), (g1, .inl (T 0, 282, .inl fa))] H locs := V
        show W p l e _ s m args below meth c H locs _ _ _ (F0 m 26 ls [.int (nI r_3), .int (nI k9), .ref o])
        refine g_callV (wr := []) (nA := 2) hC V hl.1 (m_led l D T n o k9 r_3 (nI 0) g1 g2 g3 g4 tp w6 w7 w8 w9 w10 w11 w12 w13 w14 g15 w16 g17 w18 w19 g20 w21 g22 g23 g24 w25 w26 w27 g28 g29 w30 g31 g32 g33 fa h_a (by first | assumption | omega) (by first | assumption | omega)) w_1204 w_1206 w_s62 w_9 w_1207 (by decide +kernel) rfl ⟨(Nat.le_of_ble_eq_true rfl), (Nat.le_of_ble_eq_true rfl)⟩ 0 (ci := 8) rfl rfl [0, 1] [] rfl rfl rfl rfl (by decide) (Nat.le_of_ble_eq_true rfl) dX8_rings_26 ⟨(Nat.le_of_ble_eq_true rfl), (Nat.le_of_ble_eq_true rfl)⟩ rfl (fun r w1 H locs hQ V => ?_)
        obtain ⟨r_5, rfl, rfl, f_6⟩ := hQ
        have V : gW D T A s [(o, .inr (8, [.int (nI 0), .ref g1, .ref g2, .ref g3, .ref g4, .int (nI tp), .int w6, .int w7, .int w8, .int w9, .int w10, .int w11, .int w12, .int w13, .int w14, .ref g15, .int w16, .ref g17, .int w18, .int w19, .ref g20, .int w21, .ref g22, .ref g23, .ref g24, .int w25, .int w26, .int w27, .ref g28, .ref g29, .int w30, .ref g31, .ref g32, .ref g33])), (g1, .inl (T 0, 282, .inl fa))] H locs := V
        show W p l e _ s m args below meth c H locs _ _ _ (F0 m 29 ls [.int (nI r_5)])
        refine lv_iload_n hx hb dX8_rings_29 rfl (lv_at hl 0 rfl) ?_
        refine lv_icmp_ne (tgt := 37) hx hb dX8_rings_30 (by decide) (fun c_7 => ?_) (fun c_7 => ?_)
        · skip
          have c_7 := b_ne (by omega) (by omega) c_7
          refine lv_iconst (v := (nI 0)) hx hb dX8_rings_37 (by decide +kernel) ?_
          refine lv_istore_n (lv' := [(3, .int (nI 0)), (2, .int (nI k9)), (1, .int x9_1), (0, .ref o)]) hx hb dX8_rings_38 rfl hl (by decide) rfl (fun ls hl => ?_)
          refine lv_iconst (v := (nI 1)) hx hb dX8_rings_39 (by decide +kernel) ?_
          refine lv_istore (lv' := [(4, .int (nI 1)), (3, .int (nI 0)), (2, .int (nI k9)), (1, .int x9_1), (0, .ref o)]) hx hb dX8_rings_40 hl (by decide) rfl (fun ls hl => ?_)
          have L_8 : ∀ (fu : Nat) (k42 : Nat) (x42_3 : Int32), k42 ≤ 10 → 10 - k42 < fu → ∀ (H : Heap) (locs : List Loc) (ls : Array Slot), gW D T A s [(o, .inr (8, [.int (nI 0), .ref g1, .ref g2, .ref g3, .ref g4, .int (nI tp), .int w6, .int w7, .int w8, .int w9, .int w10, .int w11, .int w12, .int w13, .int w14, .ref g15, .int w16, .ref g17, .int w18, .int w19, .ref g20, .int w21, .ref g22, .ref g23, .ref g24, .int w25, .int w26, .int w27, .ref g28, .ref g29, .int w30, .ref g31, .ref g32, .ref g33])), (g1, .inl (T 0, 282, .inl fa))] H locs → lv_has ls 5 [(4, .int (nI k42)), (3, .int x42_3), (2, .int (nI k9)), (1, .int x9_1), (0, .ref o)] → W p l e (rmD 2 0 0) s m args below meth c H locs 0 0 (MQ below (gQ D A (q_m_rings T n o w0 g1 g2 g3 g4 tp w6 w7 w8 w9 w10 w11 w12 w13 w14 g15 w16 g17 w18 w19 g20 w21 g22 g23 g24 w25 w26 w27 g28 g29 w30 g31 g32 g33 fa)) args s 0 0 A) (F0 m 42 ls []) := by
            intro fu_42
            induction fu_42 with
            | zero => intro k42 x42_3 hk42 hmu; exact absurd hmu (Nat.not_lt_zero _)
            | succ fu_42 ih_42 =>
              intro k42 x42_3 hk42 hmu_42 H locs ls V hl
              refine lv_iload hx hb dX8_rings_42 (lv_at hl 0 rfl) ?_
              refine lv_bipush (v := (nI 10)) hx hb dX8_rings_44 (by decide +kernel) ?_
              refine lv_icmp_ge (tgt := 76) hx hb dX8_rings_46 (by decide) (fun c_9 => ?_) (fun c_9 => ?_)
              · skip
                have c_9 := b_le (by omega) (by omega) c_9
                refine lv_iload_n hx hb dX8_rings_76 rfl (lv_at hl 3 rfl) ?_
                refine lv_iload_n hx hb dX8_rings_77 rfl (lv_at hl 1 rfl) ?_
                refine lv_if_eq (tgt := 85) hx hb dX8_rings_78 (by decide) (fun c_10 => ?_) (fun c_10 => ?_)
                · skip
                  refine lv_iconst (v := (nI 0)) hx hb dX8_rings_85 (by decide +kernel) ?_
                  refine lv_iadd hx hb dX8_rings_86 ?_
                  refine lv_istore_n (lv' := [(1, .int (x9_1 + (nI 0))), (4, .int (nI k42)), (3, .int x42_3), (2, .int (nI k9)), (0, .ref o)]) hx hb dX8_rings_87 rfl hl (by decide) rfl (fun ls hl => ?_)
                  refine lv_iinc (v := (nI (k9 + 1))) (lv' := [(2, .int (nI (k9 + 1))), (1, .int (x9_1 + (nI 0))), (4, .int (nI k42)), (3, .int x42_3), (0, .ref o)]) hx hb dX8_rings_88 hl (k := 3) rfl (nI_1 _) (by decide) rfl (fun ls hl => ?_)
                  refine lv_goto (tgt := 9) hx hb dX8_rings_91 (by decide) ?_
                  exact ih_9 (k9 + 1) (x9_1 + (nI 0)) (by omega) (by omega) _ _ _ V (lv_sub hl [0, 1, 4] rfl)
                · skip
                  refine lv_iconst (v := (nI 1)) hx hb dX8_rings_81 (by decide +kernel) ?_
                  refine lv_goto (tgt := 86) hx hb dX8_rings_82 (by decide) ?_
                  refine lv_iadd hx hb dX8_rings_86 ?_
                  refine lv_istore_n (lv' := [(1, .int (x9_1 + (nI 1))), (4, .int (nI k42)), (3, .int x42_3), (2, .int (nI k9)), (0, .ref o)]) hx hb dX8_rings_87 rfl hl (by decide) rfl (fun ls hl => ?_)
                  refine lv_iinc (v := (nI (k9 + 1))) (lv' := [(2, .int (nI (k9 + 1))), (1, .int (x9_1 + (nI 1))), (4, .int (nI k42)), (3, .int x42_3), (0, .ref o)]) hx hb dX8_rings_88 hl (k := 3) rfl (nI_1 _) (by decide) rfl (fun ls hl => ?_)
                  refine lv_goto (tgt := 9) hx hb dX8_rings_91 (by decide) ?_
                  exact ih_9 (k9 + 1) (x9_1 + (nI 1)) (by omega) (by omega) _ _ _ V (lv_sub hl [0, 1, 4] rfl)
              · skip
                have c_9 := b_nle (by omega) (by omega) c_9
                refine lv_iload_n hx hb dX8_rings_49 rfl (lv_at hl 1 rfl) ?_
                refine lv_if_eq (tgt := 76) hx hb dX8_rings_50 (by decide) (fun c_11 => ?_) (fun c_11 => ?_)
                · skip
                  refine lv_iload_n hx hb dX8_rings_76 rfl (lv_at hl 3 rfl) ?_
                  refine lv_iload_n hx hb dX8_rings_77 rfl (lv_at hl 1 rfl) ?_
                  refine lv_if_eq (tgt := 85) hx hb dX8_rings_78 (by decide) (fun c_12 => ?_) (fun c_12 => ?_)
                  · skip
                    refine lv_iconst (v := (nI 0)) hx hb dX8_rings_85 (by decide +kernel) ?_
                    refine lv_iadd hx hb dX8_rings_86 ?_
                    refine lv_istore_n (lv' := [(1, .int (x9_1 + (nI 0))), (4, .int (nI k42)), (3, .int x42_3), (2, .int (nI k9)), (0, .ref o)]) hx hb dX8_rings_87 rfl hl (by decide) rfl (fun ls hl => ?_)
                    refine lv_iinc (v := (nI (k9 + 1))) (lv' := [(2, .int (nI (k9 + 1))), (1, .int (x9_1 + (nI 0))), (4, .int (nI k42)), (3, .int x42_3), (0, .ref o)]) hx hb dX8_rings_88 hl (k := 3) rfl (nI_1 _) (by decide) rfl (fun ls hl => ?_)
                    refine lv_goto (tgt := 9) hx hb dX8_rings_91 (by decide) ?_
                    exact ih_9 (k9 + 1) (x9_1 + (nI 0)) (by omega) (by omega) _ _ _ V (lv_sub hl [0, 1, 4] rfl)
                  · skip
                    refine lv_iconst (v := (nI 1)) hx hb dX8_rings_81 (by decide +kernel) ?_
                    refine lv_goto (tgt := 86) hx hb dX8_rings_82 (by decide) ?_
                    refine lv_iadd hx hb dX8_rings_86 ?_
                    refine lv_istore_n (lv' := [(1, .int (x9_1 + (nI 1))), (4, .int (nI k42)), (3, .int x42_3), (2, .int (nI k9)), (0, .ref o)]) hx hb dX8_rings_87 rfl hl (by decide) rfl (fun ls hl => ?_)
                    refine lv_iinc (v := (nI (k9 + 1))) (lv' := [(2, .int (nI (k9 + 1))), (1, .int (x9_1 + (nI 1))), (4, .int (nI k42)), (3, .int x42_3), (0, .ref o)]) hx hb dX8_rings_88 hl (k := 3) rfl (nI_1 _) (by decide) rfl (fun ls hl => ?_)
                    refine lv_goto (tgt := 9) hx hb dX8_rings_91 (by decide) ?_
                    exact ih_9 (k9 + 1) (x9_1 + (nI 1)) (by omega) (by omega) _ _ _ V (lv_sub hl [0, 1, 4] rfl)
                · skip
                  refine lv_aload_n hx hb dX8_rings_53 rfl (lv_at hl 4 rfl) ?_
                  refine lv_iload_n hx hb dX8_rings_54 rfl (lv_at hl 2 rfl) ?_
                  refine lv_iload hx hb dX8_rings_55 (lv_at hl 0 rfl) ?_
                  refine g_callV (wr := []) (nA := 2) hC V hl.1 (m_led l D T n o k9 k42 (nI 0) g1 g2 g3 g4 tp w6 w7 w8 w9 w10 w11 w12 w13 w14 g15 w16 g17 w18 w19 g20 w21 g22 g23 g24 w25 w26 w27 g28 g29 w30 g31 g32 g33 fa h_a (by first | assumption | omega) (by first | assumption | omega)) w_1204 w_1206 w_s62 w_9 w_1207 (by decide +kernel) rfl ⟨(Nat.le_of_ble_eq_true rfl), (Nat.le_of_ble_eq_true rfl)⟩ 0 (ci := 8) rfl rfl [0, 1] [] rfl rfl rfl rfl (by decide) (Nat.le_of_ble_eq_true rfl) dX8_rings_57 ⟨(Nat.le_of_ble_eq_true rfl), (Nat.le_of_ble_eq_true rfl)⟩ rfl (fun r w1 H locs hQ V => ?_)
                  obtain ⟨r_13, rfl, rfl, f_14⟩ := hQ
                  have V : gW D T A s [(o, .inr (8, [.int (nI 0), .ref g1, .ref g2, .ref g3, .ref g4, .int (nI tp), .int w6, .int w7, .int w8, .int w9, .int w10, .int w11, .int w12, .int w13, .int w14, .ref g15, .int w16, .ref g17, .int w18, .int w19, .ref g20, .int w21, .ref g22, .ref g23, .ref g24, .int w25, .int w26, .int w27, .ref g28, .ref g29, .int w30, .ref g31, .ref g32, .ref g33])), (g1, .inl (T 0, 282, .inl fa))] H locs := V
                  show W p l e _ s m args below meth c H locs _ _ _ (F0 m 60 ls [.int (nI r_13)])
                  refine lv_iload_n hx hb dX8_rings_60 rfl (lv_at hl 2 rfl) ?_
                  refine lv_icmp_lt (tgt := 68) hx hb dX8_rings_61 (by decide) (fun c_15 => ?_) (fun c_15 => ?_)
                  · skip
                    have c_15 := b_lt (by omega) (by omega) c_15
                    refine lv_iconst (v := (nI 0)) hx hb dX8_rings_68 (by decide +kernel) ?_
                    refine lv_istore_n (lv' := [(3, .int (nI 0)), (4, .int (nI k42)), (2, .int (nI k9)), (1, .int x9_1), (0, .ref o)]) hx hb dX8_rings_69 rfl hl (by decide) rfl (fun ls hl => ?_)
                    refine lv_iinc (v := (nI (k42 + 1))) (lv' := [(4, .int (nI (k42 + 1))), (3, .int (nI 0)), (2, .int (nI k9)), (1, .int x9_1), (0, .ref o)]) hx hb dX8_rings_70 hl (k := 1) rfl (nI_1 _) (by decide) rfl (fun ls hl => ?_)
                    refine lv_goto (tgt := 42) hx hb dX8_rings_73 (by decide) ?_
                    exact ih_42 (k42 + 1) (nI 0) (by omega) (by omega) _ _ _ V (lv_sub hl [0, 1, 2, 3, 4] rfl)
                  · skip
                    have c_15 := b_nlt (by omega) (by omega) c_15
                    refine lv_iconst (v := (nI 1)) hx hb dX8_rings_64 (by decide +kernel) ?_
                    refine lv_goto (tgt := 69) hx hb dX8_rings_65 (by decide) ?_
                    refine lv_istore_n (lv' := [(3, .int (nI 1)), (4, .int (nI k42)), (2, .int (nI k9)), (1, .int x9_1), (0, .ref o)]) hx hb dX8_rings_69 rfl hl (by decide) rfl (fun ls hl => ?_)
                    refine lv_iinc (v := (nI (k42 + 1))) (lv' := [(4, .int (nI (k42 + 1))), (3, .int (nI 1)), (2, .int (nI k9)), (1, .int x9_1), (0, .ref o)]) hx hb dX8_rings_70 hl (k := 1) rfl (nI_1 _) (by decide) rfl (fun ls hl => ?_)
                    refine lv_goto (tgt := 42) hx hb dX8_rings_73 (by decide) ?_
                    exact ih_42 (k42 + 1) (nI 1) (by omega) (by omega) _ _ _ V (lv_sub hl [0, 1, 2, 3, 4] rfl)
          exact L_8 _ 1 (nI 0) (by omega) (Nat.lt_succ_self _) _ _ _ V (lv_sub hl [0, 1, 2, 3, 4] rfl)
        · skip
          have c_7 := b_eq (by omega) (by omega) c_7
          refine lv_iconst (v := (nI 1)) hx hb dX8_rings_33 (by decide +kernel) ?_
          refine lv_goto (tgt := 38) hx hb dX8_rings_34 (by decide) ?_
          refine lv_istore_n (lv' := [(3, .int (nI 1)), (2, .int (nI k9)), (1, .int x9_1), (0, .ref o)]) hx hb dX8_rings_38 rfl hl (by decide) rfl (fun ls hl => ?_)
          refine lv_iconst (v := (nI 1)) hx hb dX8_rings_39 (by decide +kernel) ?_
          refine lv_istore (lv' := [(4, .int (nI 1)), (3, .int (nI 1)), (2, .int (nI k9)), (1, .int x9_1), (0, .ref o)]) hx hb dX8_rings_40 hl (by decide) rfl (fun ls hl => ?_)
          have L_16 : ∀ (fu : Nat) (k42 : Nat) (x42_3 : Int32), k42 ≤ 10 → 10 - k42 < fu → ∀ (H : Heap) (locs : List Loc) (ls : Array Slot), gW D T A s [(o, .inr (8, [.int (nI 0), .ref g1, .ref g2, .ref g3, .ref g4, .int (nI tp), .int w6, .int w7, .int w8, .int w9, .int w10, .int w11, .int w12, .int w13, .int w14, .ref g15, .int w16, .ref g17, .int w18, .int w19, .ref g20, .int w21, .ref g22, .ref g23, .ref g24, .int w25, .int w26, .int w27, .ref g28, .ref g29, .int w30, .ref g31, .ref g32, .ref g33])), (g1, .inl (T 0, 282, .inl fa))] H locs → lv_has ls 5 [(4, .int (nI k42)), (3, .int x42_3), (2, .int (nI k9)), (1, .int x9_1), (0, .ref o)] → W p l e (rmD 2 0 0) s m args below meth c H locs 0 0 (MQ below (gQ D A (q_m_rings T n o w0 g1 g2 g3 g4 tp w6 w7 w8 w9 w10 w11 w12 w13 w14 g15 w16 g17 w18 w19 g20 w21 g22 g23 g24 w25 w26 w27 g28 g29 w30 g31 g32 g33 fa)) args s 0 0 A) (F0 m 42 ls []) := by
            intro fu_42
            induction fu_42 with
            | zero => intro k42 x42_3 hk42 hmu; exact absurd hmu (Nat.not_lt_zero _)
            | succ fu_42 ih_42 =>
              intro k42 x42_3 hk42 hmu_42 H locs ls V hl
              refine lv_iload hx hb dX8_rings_42 (lv_at hl 0 rfl) ?_
              refine lv_bipush (v := (nI 10)) hx hb dX8_rings_44 (by decide +kernel) ?_
              refine lv_icmp_ge (tgt := 76) hx hb dX8_rings_46 (by decide) (fun c_17 => ?_) (fun c_17 => ?_)
              · skip
                have c_17 := b_le (by omega) (by omega) c_17
                refine lv_iload_n hx hb dX8_rings_76 rfl (lv_at hl 3 rfl) ?_
                refine lv_iload_n hx hb dX8_rings_77 rfl (lv_at hl 1 rfl) ?_
                refine lv_if_eq (tgt := 85) hx hb dX8_rings_78 (by decide) (fun c_18 => ?_) (fun c_18 => ?_)
                · skip
                  refine lv_iconst (v := (nI 0)) hx hb dX8_rings_85 (by decide +kernel) ?_
                  refine lv_iadd hx hb dX8_rings_86 ?_
                  refine lv_istore_n (lv' := [(1, .int (x9_1 + (nI 0))), (4, .int (nI k42)), (3, .int x42_3), (2, .int (nI k9)), (0, .ref o)]) hx hb dX8_rings_87 rfl hl (by decide) rfl (fun ls hl => ?_)
                  refine lv_iinc (v := (nI (k9 + 1))) (lv' := [(2, .int (nI (k9 + 1))), (1, .int (x9_1 + (nI 0))), (4, .int (nI k42)), (3, .int x42_3), (0, .ref o)]) hx hb dX8_rings_88 hl (k := 3) rfl (nI_1 _) (by decide) rfl (fun ls hl => ?_)
                  refine lv_goto (tgt := 9) hx hb dX8_rings_91 (by decide) ?_
                  exact ih_9 (k9 + 1) (x9_1 + (nI 0)) (by omega) (by omega) _ _ _ V (lv_sub hl [0, 1, 4] rfl)
                · skip
                  refine lv_iconst (v := (nI 1)) hx hb dX8_rings_81 (by decide +kernel) ?_
                  refine lv_goto (tgt := 86) hx hb dX8_rings_82 (by decide) ?_
                  refine lv_iadd hx hb dX8_rings_86 ?_
                  refine lv_istore_n (lv' := [(1, .int (x9_1 + (nI 1))), (4, .int (nI k42)), (3, .int x42_3), (2, .int (nI k9)), (0, .ref o)]) hx hb dX8_rings_87 rfl hl (by decide) rfl (fun ls hl => ?_)
                  refine lv_iinc (v := (nI (k9 + 1))) (lv' := [(2, .int (nI (k9 + 1))), (1, .int (x9_1 + (nI 1))), (4, .int (nI k42)), (3, .int x42_3), (0, .ref o)]) hx hb dX8_rings_88 hl (k := 3) rfl (nI_1 _) (by decide) rfl (fun ls hl => ?_)
                  refine lv_goto (tgt := 9) hx hb dX8_rings_91 (by decide) ?_
                  exact ih_9 (k9 + 1) (x9_1 + (nI 1)) (by omega) (by omega) _ _ _ V (lv_sub hl [0, 1, 4] rfl)
              · skip
                have c_17 := b_nle (by omega) (by omega) c_17
                refine lv_iload_n hx hb dX8_rings_49 rfl (lv_at hl 1 rfl) ?_
                refine lv_if_eq (tgt := 76) hx hb dX8_rings_50 (by decide) (fun c_19 => ?_) (fun c_19 => ?_)
                · skip
                  refine lv_iload_n hx hb dX8_rings_76 rfl (lv_at hl 3 rfl) ?_
                  refine lv_iload_n hx hb dX8_rings_77 rfl (lv_at hl 1 rfl) ?_
                  refine lv_if_eq (tgt := 85) hx hb dX8_rings_78 (by decide) (fun c_20 => ?_) (fun c_20 => ?_)
                  · skip
                    refine lv_iconst (v := (nI 0)) hx hb dX8_rings_85 (by decide +kernel) ?_
                    refine lv_iadd hx hb dX8_rings_86 ?_
                    refine lv_istore_n (lv' := [(1, .int (x9_1 + (nI 0))), (4, .int (nI k42)), (3, .int x42_3), (2, .int (nI k9)), (0, .ref o)]) hx hb dX8_rings_87 rfl hl (by decide) rfl (fun ls hl => ?_)
                    refine lv_iinc (v := (nI (k9 + 1))) (lv' := [(2, .int (nI (k9 + 1))), (1, .int (x9_1 + (nI 0))), (4, .int (nI k42)), (3, .int x42_3), (0, .ref o)]) hx hb dX8_rings_88 hl (k := 3) rfl (nI_1 _) (by decide) rfl (fun ls hl => ?_)
                    refine lv_goto (tgt := 9) hx hb dX8_rings_91 (by decide) ?_
                    exact ih_9 (k9 + 1) (x9_1 + (nI 0)) (by omega) (by omega) _ _ _ V (lv_sub hl [0, 1, 4] rfl)
                  · skip
                    refine lv_iconst (v := (nI 1)) hx hb dX8_rings_81 (by decide +kernel) ?_
                    refine lv_goto (tgt := 86) hx hb dX8_rings_82 (by decide) ?_
                    refine lv_iadd hx hb dX8_rings_86 ?_
                    refine lv_istore_n (lv' := [(1, .int (x9_1 + (nI 1))), (4, .int (nI k42)), (3, .int x42_3), (2, .int (nI k9)), (0, .ref o)]) hx hb dX8_rings_87 rfl hl (by decide) rfl (fun ls hl => ?_)
                    refine lv_iinc (v := (nI (k9 + 1))) (lv' := [(2, .int (nI (k9 + 1))), (1, .int (x9_1 + (nI 1))), (4, .int (nI k42)), (3, .int x42_3), (0, .ref o)]) hx hb dX8_rings_88 hl (k := 3) rfl (nI_1 _) (by decide) rfl (fun ls hl => ?_)
                    refine lv_goto (tgt := 9) hx hb dX8_rings_91 (by decide) ?_
                    exact ih_9 (k9 + 1) (x9_1 + (nI 1)) (by omega) (by omega) _ _ _ V (lv_sub hl [0, 1, 4] rfl)
                · skip
                  refine lv_aload_n hx hb dX8_rings_53 rfl (lv_at hl 4 rfl) ?_
                  refine lv_iload_n hx hb dX8_rings_54 rfl (lv_at hl 2 rfl) ?_
                  refine lv_iload hx hb dX8_rings_55 (lv_at hl 0 rfl) ?_
                  refine g_callV (wr := []) (nA := 2) hC V hl.1 (m_led l D T n o k9 k42 (nI 0) g1 g2 g3 g4 tp w6 w7 w8 w9 w10 w11 w12 w13 w14 g15 w16 g17 w18 w19 g20 w21 g22 g23 g24 w25 w26 w27 g28 g29 w30 g31 g32 g33 fa h_a (by first | assumption | omega) (by first | assumption | omega)) w_1204 w_1206 w_s62 w_9 w_1207 (by decide +kernel) rfl ⟨(Nat.le_of_ble_eq_true rfl), (Nat.le_of_ble_eq_true rfl)⟩ 0 (ci := 8) rfl rfl [0, 1] [] rfl rfl rfl rfl (by decide) (Nat.le_of_ble_eq_true rfl) dX8_rings_57 ⟨(Nat.le_of_ble_eq_true rfl), (Nat.le_of_ble_eq_true rfl)⟩ rfl (fun r w1 H locs hQ V => ?_)
                  obtain ⟨r_21, rfl, rfl, f_22⟩ := hQ
                  have V : gW D T A s [(o, .inr (8, [.int (nI 0), .ref g1, .ref g2, .ref g3, .ref g4, .int (nI tp), .int w6, .int w7, .int w8, .int w9, .int w10, .int w11, .int w12, .int w13, .int w14, .ref g15, .int w16, .ref g17, .int w18, .int w19, .ref g20, .int w21, .ref g22, .ref g23, .ref g24, .int w25, .int w26, .int w27, .ref g28, .ref g29, .int w30, .ref g31, .ref g32, .ref g33])), (g1, .inl (T 0, 282, .inl fa))] H locs := V
                  show W p l e _ s m args below meth c H locs _ _ _ (F0 m 60 ls [.int (nI r_21)])
                  refine lv_iload_n hx hb dX8_rings_60 rfl (lv_at hl 2 rfl) ?_
                  refine lv_icmp_lt (tgt := 68) hx hb dX8_rings_61 (by decide) (fun c_23 => ?_) (fun c_23 => ?_)
                  · skip
                    have c_23 := b_lt (by omega) (by omega) c_23
                    refine lv_iconst (v := (nI 0)) hx hb dX8_rings_68 (by decide +kernel) ?_
                    refine lv_istore_n (lv' := [(3, .int (nI 0)), (4, .int (nI k42)), (2, .int (nI k9)), (1, .int x9_1), (0, .ref o)]) hx hb dX8_rings_69 rfl hl (by decide) rfl (fun ls hl => ?_)
                    refine lv_iinc (v := (nI (k42 + 1))) (lv' := [(4, .int (nI (k42 + 1))), (3, .int (nI 0)), (2, .int (nI k9)), (1, .int x9_1), (0, .ref o)]) hx hb dX8_rings_70 hl (k := 1) rfl (nI_1 _) (by decide) rfl (fun ls hl => ?_)
                    refine lv_goto (tgt := 42) hx hb dX8_rings_73 (by decide) ?_
                    exact ih_42 (k42 + 1) (nI 0) (by omega) (by omega) _ _ _ V (lv_sub hl [0, 1, 2, 3, 4] rfl)
                  · skip
                    have c_23 := b_nlt (by omega) (by omega) c_23
                    refine lv_iconst (v := (nI 1)) hx hb dX8_rings_64 (by decide +kernel) ?_
                    refine lv_goto (tgt := 69) hx hb dX8_rings_65 (by decide) ?_
                    refine lv_istore_n (lv' := [(3, .int (nI 1)), (4, .int (nI k42)), (2, .int (nI k9)), (1, .int x9_1), (0, .ref o)]) hx hb dX8_rings_69 rfl hl (by decide) rfl (fun ls hl => ?_)
                    refine lv_iinc (v := (nI (k42 + 1))) (lv' := [(4, .int (nI (k42 + 1))), (3, .int (nI 1)), (2, .int (nI k9)), (1, .int x9_1), (0, .ref o)]) hx hb dX8_rings_70 hl (k := 1) rfl (nI_1 _) (by decide) rfl (fun ls hl => ?_)
                    refine lv_goto (tgt := 42) hx hb dX8_rings_73 (by decide) ?_
                    exact ih_42 (k42 + 1) (nI 1) (by omega) (by omega) _ _ _ V (lv_sub hl [0, 1, 2, 3, 4] rfl)
          exact L_16 _ 1 (nI 1) (by omega) (Nat.lt_succ_self _) _ _ _ V (lv_sub hl [0, 1, 2, 3, 4] rfl)
  exact L_1 _ 0 (nI 0) (by omega) (Nat.lt_succ_self _) _ _ _ V (lv_sub hl [0, 1, 2] rfl)

def q_m_steps (T : Nat → ClassId) (n : Nat) (o : Nat) (i : Int32) (to : Int32) (w0 : Int32) (g1 : Nat) (g2 : Nat) (g3 : Nat) (g4 : Nat) (tp : Nat) (w6 : Int32) (w7 : Int32) (w8 : Int32) (w9 : Int32) (w10 : Int32) (w11 : Int32) (w12 : Int32) (w13 : Int32) (w14 : Int32) (g15 : Nat) (w16 : Int32) (g17 : Nat) (w18 : Int32) (w19 : Int32) (g20 : Nat) (w21 : Int32) (g22 : Nat) (g23 : Nat) (g24 : Nat) (w25 : Int32) (w26 : Int32) (w27 : Int32) (g28 : Nat) (g29 : Nat) (w30 : Int32) (g31 : Nat) (g32 : Nat) (g33 : Nat) (fa : Nat → Int32) : Option Value → va_W → Prop := fun rr ww => (∃ (z : Int32), rr = some (.int z) ∧ ww = [(o, .inr (8, [.int (nI 0), .ref g1, .ref g2, .ref g3, .ref g4, .int (nI tp), .int w6, .int w7, .int w8, .int w9, .int w10, .int w11, .int w12, .int w13, .int w14, .ref g15, .int w16, .ref g17, .int w18, .int w19, .ref g20, .int w21, .ref g22, .ref g23, .ref g24, .int w25, .int w26, .int w27, .ref g28, .ref g29, .int w30, .ref g31, .ref g32, .ref g33])), (g1, .inl (T 0, 282, .inl fa))])
set_option maxHeartbeats 4000000 in
set_option maxRecDepth 100000 in
theorem m_steps (l : Launch) (D : va_G) (T : Nat → ClassId) (n : Nat) (o : Nat) (i : Int32) (to : Int32) (w0 : Int32) (g1 : Nat) (g2 : Nat) (g3 : Nat) (g4 : Nat) (tp : Nat) (w6 : Int32) (w7 : Int32) (w8 : Int32) (w9 : Int32) (w10 : Int32) (w11 : Int32) (w12 : Int32) (w13 : Int32) (w14 : Int32) (g15 : Nat) (w16 : Int32) (g17 : Nat) (w18 : Int32) (w19 : Int32) (g20 : Nat) (w21 : Int32) (g22 : Nat) (g23 : Nat) (g24 : Nat) (w25 : Int32) (w26 : Int32) (w27 : Int32) (g28 : Nat) (g29 : Nat) (w30 : Int32) (g31 : Nat) (g32 : Nat) (g33 : Nat) (fa : Nat → Int32) (h_a : MI n fa) : Ct l yX8_steps cX8_steps 4 (some .int) 2 0 0 D T [.ref o, .int i, .int to] [(o, .inr (8, [.int w0, .ref g1, .ref g2, .ref g3, .ref g4, .int (nI tp), .int w6, .int w7, .int w8, .int w9, .int w10, .int w11, .int w12, .int w13, .int w14, .ref g15, .int w16, .ref g17, .int w18, .int w19, .ref g20, .int w21, .ref g22, .ref g23, .ref g24, .int w25, .int w26, .int w27, .ref g28, .ref g29, .int w30, .ref g31, .ref g32, .ref g33])), (g1, .inl (T 0, 282, .inl fa))] (q_m_steps T n o i to w0 g1 g2 g3 g4 tp w6 w7 w8 w9 w10 w11 w12 w13 w14 g15 w16 g17 w18 w19 g20 w21 g22 g23 g24 w25 w26 w27 g28 g29 w30 g31 g32 g33 fa) := by
  refine Ct.of (cc := cX8_steps) (maxL := 4) (ret := (some .int)) (by decide) (Nat.le_of_ble_eq_true rfl) ?_
  intro p e s m args below meth c A ls hC hnm V hl
  obtain ⟨hx, hb, hr, hml, hown, hts, hlocks⟩ := id hC
  generalize hH : s.heap = H at V ⊢
  clear hH
  have hl : lv_has ls 4 [(0, .ref o), (1, .int i), (2, .int to)] := hl
  generalize hlo : ([] : List Loc) = locs at V ⊢
  clear hlo
  have ms0 := ms_rf h_a
  have hn10 := h_a.1
  refine lv_aload_n hx hb dX8_steps_0 rfl (lv_at hl 0 rfl) ?_
  refine lv_iconst (v := (nI 0)) hx hb dX8_steps_1 (by decide +kernel) ?_
  refine g_put hC V (ci := 8) uwX8 tyX8 tyX8_ok nmX8 0 rfl rfl 0 (by decide) w_912 rfl rfl rfl rfl (Nat.le_of_ble_eq_true rfl) (ws' := [(o, .inr (8, [.int (nI 0), .ref g1, .ref g2, .ref g3, .ref g4, .int (nI tp), .int w6, .int w7, .int w8, .int w9, .int w10, .int w11, .int w12, .int w13, .int w14, .ref g15, .int w16, .ref g17, .int w18, .int w19, .ref g20, .int w21, .ref g22, .ref g23, .ref g24, .int w25, .int w26, .int w27, .ref g28, .ref g29, .int w30, .ref g31, .ref g32, .ref g33])), (g1, .inl (T 0, 282, .inl fa))]) rfl dX8_steps_2 (fun H locs V => ?_)
  refine lv_aload_n hx hb dX8_steps_5 rfl (lv_at hl 0 rfl) ?_
  refine lv_iload_n hx hb dX8_steps_6 rfl (lv_at hl 1 rfl) ?_
  refine g_callV (wr := []) (nA := 1) hC V hl.1 (m_isSmith l D T n o i (nI 0) g1 g2 g3 g4 tp w6 w7 w8 w9 w10 w11 w12 w13 w14 g15 w16 g17 w18 w19 g20 w21 g22 g23 g24 w25 w26 w27 g28 g29 w30 g31 g32 g33 fa h_a) w_1083 w_1085 w_s46 w_9 w_1086 (by decide +kernel) rfl ⟨(Nat.le_of_ble_eq_true rfl), (Nat.le_of_ble_eq_true rfl)⟩ 0 (ci := 8) rfl rfl [0, 1] [] rfl rfl rfl rfl (by decide) (Nat.le_of_ble_eq_true rfl) dX8_steps_7 ⟨(Nat.le_of_ble_eq_true rfl), (Nat.le_of_ble_eq_true rfl)⟩ rfl (fun r w1 H locs hQ V => ?_)
  rcases hQ with ⟨j_1, rfl, rfl, f_2, f_3⟩ | ⟨rfl, rfl⟩
  · have V : gW D T A s [(o, .inr (8, [.int (nI 0), .ref g1, .ref g2, .ref g3, .ref g4, .int (nI tp), .int w6, .int w7, .int w8, .int w9, .int w10, .int w11, .int w12, .int w13, .int w14, .ref g15, .int w16, .ref g17, .int w18, .int w19, .ref g20, .int w21, .ref g22, .ref g23, .ref g24, .int w25, .int w26, .int w27, .ref g28, .ref g29, .int w30, .ref g31, .ref g32, .ref g33])), (g1, .inl (T 0, 282, .inl fa))] H locs := V
    show W p l e _ s m args below meth c H locs _ _ _ (F0 m 10 ls [.int (nI 1)])
    rw [f_2] at hl
    refine lv_if_eq (tgt := 21) hx hb dX8_steps_10 (by decide) (fun c => absurd (show (nI 1) = 0 from c) (by decide +kernel)) (fun _ => ?_)
    refine lv_aload_n hx hb dX8_steps_13 rfl (lv_at hl 0 rfl) ?_
    refine lv_iload_n hx hb dX8_steps_14 rfl (lv_at hl 2 rfl) ?_
    refine g_callV (wr := []) (nA := 1) hC V hl.1 (m_isSmith l D T n o to (nI 0) g1 g2 g3 g4 tp w6 w7 w8 w9 w10 w11 w12 w13 w14 g15 w16 g17 w18 w19 g20 w21 g22 g23 g24 w25 w26 w27 g28 g29 w30 g31 g32 g33 fa h_a) w_1083 w_1085 w_s46 w_9 w_1086 (by decide +kernel) rfl ⟨(Nat.le_of_ble_eq_true rfl), (Nat.le_of_ble_eq_true rfl)⟩ 0 (ci := 8) rfl rfl [0, 1] [] rfl rfl rfl rfl (by decide) (Nat.le_of_ble_eq_true rfl) dX8_steps_15 ⟨(Nat.le_of_ble_eq_true rfl), (Nat.le_of_ble_eq_true rfl)⟩ rfl (fun r w1 H locs hQ V => ?_)
    rcases hQ with ⟨j_4, rfl, rfl, f_5, f_6⟩ | ⟨rfl, rfl⟩
    · have V : gW D T A s [(o, .inr (8, [.int (nI 0), .ref g1, .ref g2, .ref g3, .ref g4, .int (nI tp), .int w6, .int w7, .int w8, .int w9, .int w10, .int w11, .int w12, .int w13, .int w14, .ref g15, .int w16, .ref g17, .int w18, .int w19, .ref g20, .int w21, .ref g22, .ref g23, .ref g24, .int w25, .int w26, .int w27, .ref g28, .ref g29, .int w30, .ref g31, .ref g32, .ref g33])), (g1, .inl (T 0, 282, .inl fa))] H locs := V
      show W p l e _ s m args below meth c H locs _ _ _ (F0 m 18 ls [.int (nI 1)])
      rw [f_5] at hl
      refine lv_if_ne (tgt := 24) hx hb dX8_steps_18 (by decide) (fun _ => ?_) (fun c => absurd (show (nI 1) = 0 from c) (by decide +kernel))
      refine lv_iconst (v := (nI 0)) hx hb dX8_steps_24 (by decide +kernel) ?_
      refine lv_istore_n (lv' := [(3, .int (nI 0)), (0, .ref o), (1, .int (nI j_1)), (2, .int (nI j_4))]) hx hb dX8_steps_25 rfl hl (by decide) rfl (fun ls hl => ?_)
      have L_7 : ∀ (fu : Nat) (k26 : Nat), k26 ≤ 10 → 10 - k26 < fu → ∀ (H : Heap) (locs : List Loc) (ls : Array Slot), gW D T A s [(o, .inr (8, [.int (nI 0), .ref g1, .ref g2, .ref g3, .ref g4, .int (nI tp), .int w6, .int w7, .int w8, .int w9, .int w10, .int w11, .int w12, .int w13, .int w14, .ref g15, .int w16, .ref g17, .int w18, .int w19, .ref g20, .int w21, .ref g22, .ref g23, .ref g24, .int w25, .int w26, .int w27, .ref g28, .ref g29, .int w30, .ref g31, .ref g32, .ref g33])), (g1, .inl (T 0, 282, .inl fa))] H locs → lv_has ls 4 [(3, .int (nI k26)), (0, .ref o), (1, .int (nI j_1)), (2, .int (nI j_4))] → W p l e (rmD 2 0 0) s m args below meth c H locs 0 0 (MQ below (gQ D A (q_m_steps T n o i to w0 g1 g2 g3 g4 tp w6 w7 w8 w9 w10 w11 w12 w13 w14 g15 w16 g17 w18 w19 g20 w21 g22 g23 g24 w25 w26 w27 g28 g29 w30 g31 g32 g33 fa)) args s 0 0 A) (F0 m 26 ls []) := by
        intro fu_26
        induction fu_26 with
        | zero => intro k26 hk26 hmu; exact absurd hmu (Nat.not_lt_zero _)
        | succ fu_26 ih_26 =>
          intro k26 hk26 hmu_26 H locs ls V hl
          refine lv_iload_n hx hb dX8_steps_26 rfl (lv_at hl 0 rfl) ?_
          refine lv_bipush (v := (nI 10)) hx hb dX8_steps_27 (by decide +kernel) ?_
          refine lv_icmp_ge (tgt := 50) hx hb dX8_steps_29 (by decide) (fun c_8 => ?_) (fun c_8 => ?_)
          · skip
            have c_8 := b_le (by omega) (by omega) c_8
            refine lv_iconst (v := (-1)) hx hb dX8_steps_50 (by decide +kernel) ?_
            exact g_iret (Qr := (q_m_steps T n o i to w0 g1 g2 g3 g4 tp w6 w7 w8 w9 w10 w11 w12 w13 w14 g15 w16 g17 w18 w19 g20 w21 g22 g23 g24 w25 w26 w27 g28 g29 w30 g31 g32 g33 fa)) hC V ⟨(Nat.le_of_ble_eq_true rfl), (Nat.le_of_ble_eq_true rfl)⟩ ⟨(-1), rfl, rfl⟩ dX8_steps_51
          · skip
            have c_8 := b_nle (by omega) (by omega) c_8
            refine lv_aload_n hx hb dX8_steps_32 rfl (lv_at hl 1 rfl) ?_
            refine lv_iload_n hx hb dX8_steps_33 rfl (lv_at hl 2 rfl) ?_
            refine lv_iload_n hx hb dX8_steps_34 rfl (lv_at hl 0 rfl) ?_
            refine g_callV (wr := []) (nA := 2) hC V hl.1 (m_led l D T n o j_1 k26 (nI 0) g1 g2 g3 g4 tp w6 w7 w8 w9 w10 w11 w12 w13 w14 g15 w16 g17 w18 w19 g20 w21 g22 g23 g24 w25 w26 w27 g28 g29 w30 g31 g32 g33 fa h_a (by first | assumption | omega) (by first | assumption | omega)) w_1204 w_1206 w_s62 w_9 w_1207 (by decide +kernel) rfl ⟨(Nat.le_of_ble_eq_true rfl), (Nat.le_of_ble_eq_true rfl)⟩ 0 (ci := 8) rfl rfl [0, 1] [] rfl rfl rfl rfl (by decide) (Nat.le_of_ble_eq_true rfl) dX8_steps_35 ⟨(Nat.le_of_ble_eq_true rfl), (Nat.le_of_ble_eq_true rfl)⟩ rfl (fun r w1 H locs hQ V => ?_)
            obtain ⟨r_9, rfl, rfl, f_10⟩ := hQ
            have V : gW D T A s [(o, .inr (8, [.int (nI 0), .ref g1, .ref g2, .ref g3, .ref g4, .int (nI tp), .int w6, .int w7, .int w8, .int w9, .int w10, .int w11, .int w12, .int w13, .int w14, .ref g15, .int w16, .ref g17, .int w18, .int w19, .ref g20, .int w21, .ref g22, .ref g23, .ref g24, .int w25, .int w26, .int w27, .ref g28, .ref g29, .int w30, .ref g31, .ref g32, .ref g33])), (g1, .inl (T 0, 282, .inl fa))] H locs := V
            show W p l e _ s m args below meth c H locs _ _ _ (F0 m 38 ls [.int (nI r_9)])
            refine lv_iload_n hx hb dX8_steps_38 rfl (lv_at hl 3 rfl) ?_
            refine lv_icmp_ne (tgt := 44) hx hb dX8_steps_39 (by decide) (fun c_11 => ?_) (fun c_11 => ?_)
            · skip
              have c_11 := b_ne (by omega) (by omega) c_11
              refine lv_iinc (v := (nI (k26 + 1))) (lv' := [(3, .int (nI (k26 + 1))), (0, .ref o), (1, .int (nI j_1)), (2, .int (nI j_4))]) hx hb dX8_steps_44 hl (k := 0) rfl (nI_1 _) (by decide) rfl (fun ls hl => ?_)
              refine lv_goto (tgt := 26) hx hb dX8_steps_47 (by decide) ?_
              exact ih_26 (k26 + 1) (by omega) (by omega) _ _ _ V (lv_sub hl [0, 1, 2, 3] rfl)
            · skip
              have c_11 := b_eq (by omega) (by omega) c_11
              refine lv_iload_n hx hb dX8_steps_42 rfl (lv_at hl 0 rfl) ?_
              exact g_iret (Qr := (q_m_steps T n o i to w0 g1 g2 g3 g4 tp w6 w7 w8 w9 w10 w11 w12 w13 w14 g15 w16 g17 w18 w19 g20 w21 g22 g23 g24 w25 w26 w27 g28 g29 w30 g31 g32 g33 fa)) hC V ⟨(Nat.le_of_ble_eq_true rfl), (Nat.le_of_ble_eq_true rfl)⟩ ⟨(nI k26), rfl, rfl⟩ dX8_steps_43
      exact L_7 _ 0 (by omega) (Nat.lt_succ_self _) _ _ _ V (lv_sub hl [0, 1, 2, 3] rfl)
    · have V : gW D T A s [(o, .inr (8, [.int (nI 0), .ref g1, .ref g2, .ref g3, .ref g4, .int (nI tp), .int w6, .int w7, .int w8, .int w9, .int w10, .int w11, .int w12, .int w13, .int w14, .ref g15, .int w16, .ref g17, .int w18, .int w19, .ref g20, .int w21, .ref g22, .ref g23, .ref g24, .int w25, .int w26, .int w27, .ref g28, .ref g29, .int w30, .ref g31, .ref g32, .ref g33])), (g1, .inl (T 0, 282, .inl fa))] H locs := V
      show W p l e _ s m args below meth c H locs _ _ _ (F0 m 18 ls [.int (nI 0)])
      refine lv_if_ne (tgt := 24) hx hb dX8_steps_18 (by decide) (fun c => absurd (show (nI 0) = 0 by decide +kernel) c) (fun _ => ?_)
      refine lv_bipush (v := (-2)) hx hb dX8_steps_21 (by decide +kernel) ?_
      exact g_iret (Qr := (q_m_steps T n o i to w0 g1 g2 g3 g4 tp w6 w7 w8 w9 w10 w11 w12 w13 w14 g15 w16 g17 w18 w19 g20 w21 g22 g23 g24 w25 w26 w27 g28 g29 w30 g31 g32 g33 fa)) hC V ⟨(Nat.le_of_ble_eq_true rfl), (Nat.le_of_ble_eq_true rfl)⟩ ⟨(-2), rfl, rfl⟩ dX8_steps_23
  · have V : gW D T A s [(o, .inr (8, [.int (nI 0), .ref g1, .ref g2, .ref g3, .ref g4, .int (nI tp), .int w6, .int w7, .int w8, .int w9, .int w10, .int w11, .int w12, .int w13, .int w14, .ref g15, .int w16, .ref g17, .int w18, .int w19, .ref g20, .int w21, .ref g22, .ref g23, .ref g24, .int w25, .int w26, .int w27, .ref g28, .ref g29, .int w30, .ref g31, .ref g32, .ref g33])), (g1, .inl (T 0, 282, .inl fa))] H locs := V
    show W p l e _ s m args below meth c H locs _ _ _ (F0 m 10 ls [.int (nI 0)])
    refine lv_if_eq (tgt := 21) hx hb dX8_steps_10 (by decide) (fun _ => ?_) (fun c => absurd (show (nI 0) = 0 by decide +kernel) c)
    refine lv_bipush (v := (-2)) hx hb dX8_steps_21 (by decide +kernel) ?_
    exact g_iret (Qr := (q_m_steps T n o i to w0 g1 g2 g3 g4 tp w6 w7 w8 w9 w10 w11 w12 w13 w14 g15 w16 g17 w18 w19 g20 w21 g22 g23 g24 w25 w26 w27 g28 g29 w30 g31 g32 g33 fa)) hC V ⟨(Nat.le_of_ble_eq_true rfl), (Nat.le_of_ble_eq_true rfl)⟩ ⟨(-2), rfl, rfl⟩ dX8_steps_23

def q_m_unblown (T : Nat → ClassId) (n : Nat) (o : Nat) (w0 : Int32) (g1 : Nat) (g2 : Nat) (g3 : Nat) (g4 : Nat) (tp : Nat) (w6 : Int32) (w7 : Int32) (w8 : Int32) (w9 : Int32) (w10 : Int32) (w11 : Int32) (w12 : Int32) (w13 : Int32) (w14 : Int32) (g15 : Nat) (w16 : Int32) (g17 : Nat) (w18 : Int32) (w19 : Int32) (g20 : Nat) (w21 : Int32) (g22 : Nat) (g23 : Nat) (g24 : Nat) (w25 : Int32) (w26 : Int32) (w27 : Int32) (g28 : Nat) (g29 : Nat) (w30 : Int32) (g31 : Nat) (g32 : Nat) (g33 : Nat) (fa : Nat → Int32) : Option Value → va_W → Prop := fun rr ww => (∃ (z : Int32), rr = some (.int z) ∧ ww = [(o, .inr (8, [.int (nI 0), .ref g1, .ref g2, .ref g3, .ref g4, .int (nI tp), .int w6, .int w7, .int w8, .int w9, .int w10, .int w11, .int w12, .int w13, .int w14, .ref g15, .int w16, .ref g17, .int w18, .int w19, .ref g20, .int w21, .ref g22, .ref g23, .ref g24, .int w25, .int w26, .int w27, .ref g28, .ref g29, .int w30, .ref g31, .ref g32, .ref g33])), (g1, .inl (T 0, 282, .inl fa))])
set_option maxHeartbeats 4000000 in
set_option maxRecDepth 100000 in
theorem m_unblown (l : Launch) (D : va_G) (T : Nat → ClassId) (n : Nat) (o : Nat) (w0 : Int32) (g1 : Nat) (g2 : Nat) (g3 : Nat) (g4 : Nat) (tp : Nat) (w6 : Int32) (w7 : Int32) (w8 : Int32) (w9 : Int32) (w10 : Int32) (w11 : Int32) (w12 : Int32) (w13 : Int32) (w14 : Int32) (g15 : Nat) (w16 : Int32) (g17 : Nat) (w18 : Int32) (w19 : Int32) (g20 : Nat) (w21 : Int32) (g22 : Nat) (g23 : Nat) (g24 : Nat) (w25 : Int32) (w26 : Int32) (w27 : Int32) (g28 : Nat) (g29 : Nat) (w30 : Int32) (g31 : Nat) (g32 : Nat) (g33 : Nat) (fa : Nat → Int32) (h_a : MI n fa) : Ct l yX8_unblown cX8_unblown 3 (some .int) 1 0 0 D T [.ref o] [(o, .inr (8, [.int w0, .ref g1, .ref g2, .ref g3, .ref g4, .int (nI tp), .int w6, .int w7, .int w8, .int w9, .int w10, .int w11, .int w12, .int w13, .int w14, .ref g15, .int w16, .ref g17, .int w18, .int w19, .ref g20, .int w21, .ref g22, .ref g23, .ref g24, .int w25, .int w26, .int w27, .ref g28, .ref g29, .int w30, .ref g31, .ref g32, .ref g33])), (g1, .inl (T 0, 282, .inl fa))] (q_m_unblown T n o w0 g1 g2 g3 g4 tp w6 w7 w8 w9 w10 w11 w12 w13 w14 g15 w16 g17 w18 w19 g20 w21 g22 g23 g24 w25 w26 w27 g28 g29 w30 g31 g32 g33 fa) := by
  refine Ct.of (cc := cX8_unblown) (maxL := 3) (ret := (some .int)) (by decide) (Nat.le_of_ble_eq_true rfl) ?_
  intro p e s m args below meth c A ls hC hnm V hl
  obtain ⟨hx, hb, hr, hml, hown, hts, hlocks⟩ := id hC
  generalize hH : s.heap = H at V ⊢
  clear hH
  have hl : lv_has ls 3 [(0, .ref o)] := hl
  generalize hlo : ([] : List Loc) = locs at V ⊢
  clear hlo
  have ms0 := ms_rf h_a
  have hn10 := h_a.1
  refine lv_aload_n hx hb dX8_unblown_0 rfl (lv_at hl 0 rfl) ?_
  refine lv_iconst (v := (nI 0)) hx hb dX8_unblown_1 (by decide +kernel) ?_
  refine g_put hC V (ci := 8) uwX8 tyX8 tyX8_ok nmX8 0 rfl rfl 0 (by decide) w_912 rfl rfl rfl rfl (Nat.le_of_ble_eq_true rfl) (ws' := [(o, .inr (8, [.int (nI 0), .ref g1, .ref g2, .ref g3, .ref g4, .int (nI tp), .int w6, .int w7, .int w8, .int w9, .int w10, .int w11, .int w12, .int w13, .int w14, .ref g15, .int w16, .ref g17, .int w18, .int w19, .ref g20, .int w21, .ref g22, .ref g23, .ref g24, .int w25, .int w26, .int w27, .ref g28, .ref g29, .int w30, .ref g31, .ref g32, .ref g33])), (g1, .inl (T 0, 282, .inl fa))]) rfl dX8_unblown_2 (fun H locs V => ?_)
  refine lv_iconst (v := (nI 0)) hx hb dX8_unblown_5 (by decide +kernel) ?_
  refine lv_istore_n (lv' := [(1, .int (nI 0)), (0, .ref o)]) hx hb dX8_unblown_6 rfl hl (by decide) rfl (fun ls hl => ?_)
  refine lv_iconst (v := (nI 0)) hx hb dX8_unblown_7 (by decide +kernel) ?_
  refine lv_istore_n (lv' := [(2, .int (nI 0)), (1, .int (nI 0)), (0, .ref o)]) hx hb dX8_unblown_8 rfl hl (by decide) rfl (fun ls hl => ?_)
  have L_1 : ∀ (fu : Nat) (k9 : Nat) (x9_1 : Int32), k9 ≤ n → n - k9 < fu → ∀ (H : Heap) (locs : List Loc) (ls : Array Slot), gW D T A s [(o, .inr (8, [.int (nI 0), .ref g1, .ref g2, .ref g3, .ref g4, .int (nI tp), .int w6, .int w7, .int w8, .int w9, .int w10, .int w11, .int w12, .int w13, .int w14, .ref g15, .int w16, .ref g17, .int w18, .int w19, .ref g20, .int w21, .ref g22, .ref g23, .ref g24, .int w25, .int w26, .int w27, .ref g28, .ref g29, .int w30, .ref g31, .ref g32, .ref g33])), (g1, .inl (T 0, 282, .inl fa))] H locs → lv_has ls 3 [(2, .int (nI k9)), (1, .int x9_1), (0, .ref o)] → W p l e (rmD 1 0 0) s m args below meth c H locs 0 0 (MQ below (gQ D A (q_m_unblown T n o w0 g1 g2 g3 g4 tp w6 w7 w8 w9 w10 w11 w12 w13 w14 g15 w16 g17 w18 w19 g20 w21 g22 g23 g24 w25 w26 w27 g28 g29 w30 g31 g32 g33 fa)) args s 0 0 A) (F0 m 9 ls []) := by
    intro fu_9
    induction fu_9 with
    | zero => intro k9 x9_1 hk9 hmu; exact absurd hmu (Nat.not_lt_zero _)
    | succ fu_9 ih_9 =>
      intro k9 x9_1 hk9 hmu_9 H locs ls V hl
      refine lv_iload_n hx hb dX8_unblown_9 rfl (lv_at hl 0 rfl) ?_
      refine lv_aload_n hx hb dX8_unblown_10 rfl (lv_at hl 2 rfl) ?_
      refine g_get hC V (ci := 8) uwX8 0 rfl rfl 1 (by decide) w_913 rfl rfl dX8_unblown_11 ?_
      refine lv_iconst (v := (nI 0)) hx hb dX8_unblown_14 (by decide +kernel) ?_
      refine g_iald hC V 1 rfl (vp_in_nI (by decide) (by decide)) (v := (nI n)) (by rw [nI_clamp (by decide)]; first | rfl | exact h_a.2.1) dX8_unblown_15 ?_
      refine lv_icmp_ge (tgt := 43) hx hb dX8_unblown_16 (by decide) (fun c_2 => ?_) (fun c_2 => ?_)
      · skip
        have c_2 := b_le (by omega) (by omega) c_2
        refine lv_iload_n hx hb dX8_unblown_43 rfl (lv_at hl 1 rfl) ?_
        exact g_iret (Qr := (q_m_unblown T n o w0 g1 g2 g3 g4 tp w6 w7 w8 w9 w10 w11 w12 w13 w14 g15 w16 g17 w18 w19 g20 w21 g22 g23 g24 w25 w26 w27 g28 g29 w30 g31 g32 g33 fa)) hC V ⟨(Nat.le_of_ble_eq_true rfl), (Nat.le_of_ble_eq_true rfl)⟩ ⟨x9_1, rfl, rfl⟩ dX8_unblown_44
      · skip
        have c_2 := b_nle (by omega) (by omega) c_2
        refine lv_iload_n hx hb dX8_unblown_19 rfl (lv_at hl 1 rfl) ?_
        refine lv_aload_n hx hb dX8_unblown_20 rfl (lv_at hl 2 rfl) ?_
        refine lv_iload_n hx hb dX8_unblown_21 rfl (lv_at hl 0 rfl) ?_
        refine g_callV (wr := []) (nA := 1) hC V hl.1 (m_blowersOf l D T n o (nI k9) (nI 0) g1 g2 g3 g4 tp w6 w7 w8 w9 w10 w11 w12 w13 w14 g15 w16 g17 w18 w19 g20 w21 g22 g23 g24 w25 w26 w27 g28 g29 w30 g31 g32 g33 fa h_a) w_1096 w_1098 w_s48 w_9 w_1099 (by decide +kernel) rfl ⟨(Nat.le_of_ble_eq_true rfl), (Nat.le_of_ble_eq_true rfl)⟩ 0 (ci := 8) rfl rfl [0, 1] [] rfl rfl rfl rfl (by decide) (Nat.le_of_ble_eq_true rfl) dX8_unblown_22 ⟨(Nat.le_of_ble_eq_true rfl), (Nat.le_of_ble_eq_true rfl)⟩ rfl (fun r w1 H locs hQ V => ?_)
        obtain ⟨z_3, rfl, rfl⟩ := hQ
        have V : gW D T A s [(o, .inr (8, [.int (nI 0), .ref g1, .ref g2, .ref g3, .ref g4, .int (nI tp), .int w6, .int w7, .int w8, .int w9, .int w10, .int w11, .int w12, .int w13, .int w14, .ref g15, .int w16, .ref g17, .int w18, .int w19, .ref g20, .int w21, .ref g22, .ref g23, .ref g24, .int w25, .int w26, .int w27, .ref g28, .ref g29, .int w30, .ref g31, .ref g32, .ref g33])), (g1, .inl (T 0, 282, .inl fa))] H locs := V
        show W p l e _ s m args below meth c H locs _ _ _ (F0 m 25 ls [.int z_3, .int x9_1])
        refine lv_if_ne (tgt := 34) hx hb dX8_unblown_25 (by decide) (fun c_4 => ?_) (fun c_4 => ?_)
        · skip
          refine lv_iconst (v := (nI 0)) hx hb dX8_unblown_34 (by decide +kernel) ?_
          refine lv_ior hx hb dX8_unblown_35 ?_
          refine lv_istore_n (lv' := [(1, .int (x9_1 ||| (nI 0))), (2, .int (nI k9)), (0, .ref o)]) hx hb dX8_unblown_36 rfl hl (by decide) rfl (fun ls hl => ?_)
          refine lv_iinc (v := (nI (k9 + 1))) (lv' := [(2, .int (nI (k9 + 1))), (1, .int (x9_1 ||| (nI 0))), (0, .ref o)]) hx hb dX8_unblown_37 hl (k := 1) rfl (nI_1 _) (by decide) rfl (fun ls hl => ?_)
          refine lv_goto (tgt := 9) hx hb dX8_unblown_40 (by decide) ?_
          exact ih_9 (k9 + 1) (x9_1 ||| (nI 0)) (by omega) (by omega) _ _ _ V (lv_sub hl [0, 1, 2] rfl)
        · skip
          refine lv_iconst (v := (nI 1)) hx hb dX8_unblown_28 (by decide +kernel) ?_
          refine lv_iload_n hx hb dX8_unblown_29 rfl (lv_at hl 0 rfl) ?_
          refine lv_ishl hx hb dX8_unblown_30 ?_
          refine lv_goto (tgt := 35) hx hb dX8_unblown_31 (by decide) ?_
          refine lv_ior hx hb dX8_unblown_35 ?_
          refine lv_istore_n (lv' := [(1, .int (x9_1 ||| ((nI 1) <<< ((nI k9) &&& 31)))), (2, .int (nI k9)), (0, .ref o)]) hx hb dX8_unblown_36 rfl hl (by decide) rfl (fun ls hl => ?_)
          refine lv_iinc (v := (nI (k9 + 1))) (lv' := [(2, .int (nI (k9 + 1))), (1, .int (x9_1 ||| ((nI 1) <<< ((nI k9) &&& 31)))), (0, .ref o)]) hx hb dX8_unblown_37 hl (k := 1) rfl (nI_1 _) (by decide) rfl (fun ls hl => ?_)
          refine lv_goto (tgt := 9) hx hb dX8_unblown_40 (by decide) ?_
          exact ih_9 (k9 + 1) (x9_1 ||| ((nI 1) <<< ((nI k9) &&& 31))) (by omega) (by omega) _ _ _ V (lv_sub hl [0, 1, 2] rfl)
  exact L_1 _ 0 (nI 0) (by omega) (Nat.lt_succ_self _) _ _ _ V (lv_sub hl [0, 1, 2] rfl)
