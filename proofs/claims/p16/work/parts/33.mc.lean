def q_m_lives (T : Nat → ClassId) (n : Nat) (o : Nat) (cn : Nat) (lz : Int32) (fi : Int32) (bl : Int32) (w0 : Int32) (g1 : Nat) (g2 : Nat) (g3 : Nat) (g4 : Nat) (tp : Nat) (w6 : Int32) (w7 : Int32) (w8 : Int32) (w9 : Int32) (w10 : Int32) (w11 : Int32) (w12 : Int32) (w13 : Int32) (w14 : Int32) (g15 : Nat) (w16 : Int32) (g17 : Nat) (w18 : Int32) (w19 : Int32) (g20 : Nat) (w21 : Int32) (g22 : Nat) (g23 : Nat) (g24 : Nat) (w25 : Int32) (w26 : Int32) (w27 : Int32) (g28 : Nat) (g29 : Nat) (w30 : Int32) (g31 : Nat) (g32 : Nat) (g33 : Nat) (fa : Nat → Int32) (fh : Nat → Int32) : Option Value → va_W → Prop := fun rr ww => (∃ (z : Int32) (bm : Int32) (ga : Nat → Int32) (gh : Nat → Int32), rr = some (.int z) ∧ ww = [(o, .inr (8, [.int w0, .ref g1, .ref g2, .ref g3, .ref g4, .int (nI tp), .int w6, .int w7, .int w8, .int w9, .int w10, .int w11, .int w12, .int w13, .int w14, .ref g15, .int bm, .ref g17, .int w18, .int w19, .ref g20, .int w21, .ref g22, .ref g23, .ref g24, .int w25, .int w26, .int w27, .ref g28, .ref g29, .int w30, .ref g31, .ref g32, .ref g33])), (g1, .inl (T 0, 282, .inl ga)), (g15, .inl (T 0, 10, .inl gh))] ∧ MS n fa ga)
set_option maxHeartbeats 4000000 in
set_option maxRecDepth 100000 in
theorem m_lives (l : Launch) (D : va_G) (T : Nat → ClassId) (n : Nat) (o : Nat) (cn : Nat) (lz : Int32) (fi : Int32) (bl : Int32) (w0 : Int32) (g1 : Nat) (g2 : Nat) (g3 : Nat) (g4 : Nat) (tp : Nat) (w6 : Int32) (w7 : Int32) (w8 : Int32) (w9 : Int32) (w10 : Int32) (w11 : Int32) (w12 : Int32) (w13 : Int32) (w14 : Int32) (g15 : Nat) (w16 : Int32) (g17 : Nat) (w18 : Int32) (w19 : Int32) (g20 : Nat) (w21 : Int32) (g22 : Nat) (g23 : Nat) (g24 : Nat) (w25 : Int32) (w26 : Int32) (w27 : Int32) (g28 : Nat) (g29 : Nat) (w30 : Int32) (g31 : Nat) (g32 : Nat) (g33 : Nat) (fa : Nat → Int32) (fh : Nat → Int32) (h_a : MI n fa) (h_c : cn ≤ 1000) (h_fi : (fi = -1 ∨ bd fi n)) : Ct l yX8_lives cX8_lives 11 (some .int) 3 0 0 D T [.ref o, .int (nI cn), .int lz, .int fi, .int bl] [(o, .inr (8, [.int w0, .ref g1, .ref g2, .ref g3, .ref g4, .int (nI tp), .int w6, .int w7, .int w8, .int w9, .int w10, .int w11, .int w12, .int w13, .int w14, .ref g15, .int w16, .ref g17, .int w18, .int w19, .ref g20, .int w21, .ref g22, .ref g23, .ref g24, .int w25, .int w26, .int w27, .ref g28, .ref g29, .int w30, .ref g31, .ref g32, .ref g33])), (g1, .inl (T 0, 282, .inl fa)), (g15, .inl (T 0, 10, .inl fh))] (q_m_lives T n o cn lz fi bl w0 g1 g2 g3 g4 tp w6 w7 w8 w9 w10 w11 w12 w13 w14 g15 w16 g17 w18 w19 g20 w21 g22 g23 g24 w25 w26 w27 g28 g29 w30 g31 g32 g33 fa fh) := by
  refine Ct.of (cc := cX8_lives) (maxL := 11) (ret := (some .int)) (by decide) (Nat.le_of_ble_eq_true rfl) ?_
  intro p e s m args below meth c A ls hC hnm V hl
  obtain ⟨hx, hb, hr, hml, hown, hts, hlocks⟩ := id hC
  generalize hH : s.heap = H at V ⊢
  clear hH
  have hl : lv_has ls 11 [(0, .ref o), (1, .int (nI cn)), (2, .int lz), (3, .int fi), (4, .int bl)] := hl
  generalize hlo : ([] : List Loc) = locs at V ⊢
  clear hlo
  have ms0 := ms_rf h_a
  have hn10 := h_a.1
  refine lv_iconst (v := (nI 0)) hx hb dX8_lives_0 (by decide +kernel) ?_
  refine lv_istore (lv' := [(5, .int (nI 0)), (0, .ref o), (1, .int (nI cn)), (2, .int lz), (3, .int fi), (4, .int bl)]) hx hb dX8_lives_1 hl (by decide) rfl (fun ls hl => ?_)
  refine lv_iconst (v := (nI 0)) hx hb dX8_lives_3 (by decide +kernel) ?_
  refine lv_istore (lv' := [(6, .int (nI 0)), (5, .int (nI 0)), (0, .ref o), (1, .int (nI cn)), (2, .int lz), (3, .int fi), (4, .int bl)]) hx hb dX8_lives_4 hl (by decide) rfl (fun ls hl => ?_)
  have L_1 : ∀ (fu : Nat) (k6 : Nat) (x6_5 : Int32) (bv : Int32) (th : Nat → Int32) (f6 : Nat → Int32), k6 ≤ cn → MS n fa f6 → cn - k6 < fu → ∀ (H : Heap) (locs : List Loc) (ls : Array Slot), gW D T A s [(o, .inr (8, [.int w0, .ref g1, .ref g2, .ref g3, .ref g4, .int (nI tp), .int w6, .int w7, .int w8, .int w9, .int w10, .int w11, .int w12, .int w13, .int w14, .ref g15, .int bv, .ref g17, .int w18, .int w19, .ref g20, .int w21, .ref g22, .ref g23, .ref g24, .int w25, .int w26, .int w27, .ref g28, .ref g29, .int w30, .ref g31, .ref g32, .ref g33])), (g1, .inl (T 0, 282, .inl f6)), (g15, .inl (T 0, 10, .inl th))] H locs → lv_has ls 11 [(6, .int (nI k6)), (5, .int x6_5), (0, .ref o), (1, .int (nI cn)), (2, .int lz), (3, .int fi), (4, .int bl)] → W p l e (rmD 3 0 0) s m args below meth c H locs 0 0 (MQ below (gQ D A (q_m_lives T n o cn lz fi bl w0 g1 g2 g3 g4 tp w6 w7 w8 w9 w10 w11 w12 w13 w14 g15 w16 g17 w18 w19 g20 w21 g22 g23 g24 w25 w26 w27 g28 g29 w30 g31 g32 g33 fa fh)) args s 0 0 A) (F0 m 6 ls []) := by
    intro fu_6
    induction fu_6 with
    | zero => intro k6 x6_5 bv th f6 hk6 hf6 hmu; exact absurd hmu (Nat.not_lt_zero _)
    | succ fu_6 ih_6 =>
      intro k6 x6_5 bv th f6 hk6 hf6 hmu_6 H locs ls V hl
      refine lv_iload hx hb dX8_lives_6 (lv_at hl 0 rfl) ?_
      refine lv_iload_n hx hb dX8_lives_8 rfl (lv_at hl 3 rfl) ?_
      refine lv_icmp_ge (tgt := 198) hx hb dX8_lives_9 (by decide) (fun c_2 => ?_) (fun c_2 => ?_)
      · skip
        have c_2 := b_le (by omega) (by omega) c_2
        refine lv_iload hx hb dX8_lives_198 (lv_at hl 1 rfl) ?_
        exact g_iret (Qr := (q_m_lives T n o cn lz fi bl w0 g1 g2 g3 g4 tp w6 w7 w8 w9 w10 w11 w12 w13 w14 g15 w16 g17 w18 w19 g20 w21 g22 g23 g24 w25 w26 w27 g28 g29 w30 g31 g32 g33 fa fh)) hC V ⟨(Nat.le_of_ble_eq_true rfl), (Nat.le_of_ble_eq_true rfl)⟩ ⟨x6_5, bv, f6, th, rfl, rfl, (by first | assumption | omega)⟩ dX8_lives_200
      · skip
        have c_2 := b_nle (by omega) (by omega) c_2
        refine lv_iconst (v := (nI 0)) hx hb dX8_lives_12 (by decide +kernel) ?_
        refine lv_istore (lv' := [(7, .int (nI 0)), (6, .int (nI k6)), (5, .int x6_5), (0, .ref o), (1, .int (nI cn)), (2, .int lz), (3, .int fi), (4, .int bl)]) hx hb dX8_lives_13 hl (by decide) rfl (fun ls hl => ?_)
        refine lv_iconst (v := (nI 0)) hx hb dX8_lives_15 (by decide +kernel) ?_
        refine lv_istore (lv' := [(8, .int (nI 0)), (7, .int (nI 0)), (6, .int (nI k6)), (5, .int x6_5), (0, .ref o), (1, .int (nI cn)), (2, .int lz), (3, .int fi), (4, .int bl)]) hx hb dX8_lives_16 hl (by decide) rfl (fun ls hl => ?_)
        refine lv_iconst (v := (nI 0)) hx hb dX8_lives_18 (by decide +kernel) ?_
        refine lv_istore (lv' := [(9, .int (nI 0)), (8, .int (nI 0)), (7, .int (nI 0)), (6, .int (nI k6)), (5, .int x6_5), (0, .ref o), (1, .int (nI cn)), (2, .int lz), (3, .int fi), (4, .int bl)]) hx hb dX8_lives_19 hl (by decide) rfl (fun ls hl => ?_)
        have L_3 : ∀ (fu : Nat) (k21 : Nat) (x21_8 : Int32) (x21_7 : Int32), k21 ≤ n → n - k21 < fu → ∀ (H : Heap) (locs : List Loc) (ls : Array Slot), gW D T A s [(o, .inr (8, [.int w0, .ref g1, .ref g2, .ref g3, .ref g4, .int (nI tp), .int w6, .int w7, .int w8, .int w9, .int w10, .int w11, .int w12, .int w13, .int w14, .ref g15, .int bv, .ref g17, .int w18, .int w19, .ref g20, .int w21, .ref g22, .ref g23, .ref g24, .int w25, .int w26, .int w27, .ref g28, .ref g29, .int w30, .ref g31, .ref g32, .ref g33])), (g1, .inl (T 0, 282, .inl f6)), (g15, .inl (T 0, 10, .inl th))] H locs → lv_has ls 11 [(9, .int (nI k21)), (8, .int x21_8), (7, .int x21_7), (6, .int (nI k6)), (5, .int x6_5), (0, .ref o), (1, .int (nI cn)), (2, .int lz), (3, .int fi), (4, .int bl)] → W p l e (rmD 3 0 0) s m args below meth c H locs 0 0 (MQ below (gQ D A (q_m_lives T n o cn lz fi bl w0 g1 g2 g3 g4 tp w6 w7 w8 w9 w10 w11 w12 w13 w14 g15 w16 g17 w18 w19 g20 w21 g22 g23 g24 w25 w26 w27 g28 g29 w30 g31 g32 g33 fa fh)) args s 0 0 A) (F0 m 21 ls []) := by
          intro fu_21
          induction fu_21 with
          | zero => intro k21 x21_8 x21_7 hk21 hmu; exact absurd hmu (Nat.not_lt_zero _)
          | succ fu_21 ih_21 =>
            intro k21 x21_8 x21_7 hk21 hmu_21 H locs ls V hl
            refine lv_iload hx hb dX8_lives_21 (lv_at hl 0 rfl) ?_
            refine lv_aload_n hx hb dX8_lives_23 rfl (lv_at hl 5 rfl) ?_
            refine g_get hC V (ci := 8) uwX8 0 rfl rfl 1 (by decide) w_913 rfl rfl dX8_lives_24 ?_
            refine lv_iconst (v := (nI 0)) hx hb dX8_lives_27 (by decide +kernel) ?_
            refine g_iald hC V 1 rfl (vp_in_nI (by decide) (by decide)) (v := (nI n)) (by rw [nI_clamp (by decide)]; first | rfl | exact h_a.2.1 | exact hf6.1.2.1) dX8_lives_28 ?_
            refine lv_icmp_ge (tgt := 131) hx hb dX8_lives_29 (by decide) (fun c_4 => ?_) (fun c_4 => ?_)
            · skip
              have c_4 := b_le (by omega) (by omega) c_4
              refine lv_iload_n hx hb dX8_lives_131 rfl (lv_at hl 8 rfl) ?_
              refine lv_iconst (v := (-1)) hx hb dX8_lives_132 (by decide +kernel) ?_
              refine lv_icmp_eq (tgt := 164) hx hb dX8_lives_133 (by decide) (fun c_5 => ?_) (fun c_5 => ?_)
              · skip
                refine lv_iconst (v := (nI 0)) hx hb dX8_lives_164 (by decide +kernel) ?_
                refine lv_istore (lv' := [(9, .int (nI 0)), (8, .int x21_8), (7, .int x21_7), (6, .int (nI k6)), (5, .int x6_5), (0, .ref o), (1, .int (nI cn)), (2, .int lz), (3, .int fi), (4, .int bl)]) hx hb dX8_lives_165 hl (by decide) rfl (fun ls hl => ?_)
                refine lv_iload hx hb dX8_lives_167 (lv_at hl 4 rfl) ?_
                refine lv_aload_n hx hb dX8_lives_169 rfl (lv_at hl 5 rfl) ?_
                refine lv_iload hx hb dX8_lives_170 (lv_at hl 2 rfl) ?_
                refine lv_iload hx hb dX8_lives_172 (lv_at hl 1 rfl) ?_
                refine lv_iload_n hx hb dX8_lives_174 rfl (lv_at hl 8 rfl) ?_
                refine lv_iload hx hb dX8_lives_175 (lv_at hl 0 rfl) ?_
                refine lv_if_eq (tgt := 185) hx hb dX8_lives_177 (by decide) (fun _ => ?_) (fun c => absurd (show (nI 0) = 0 by decide +kernel) c)
                refine lv_iconst (v := (nI 0)) hx hb dX8_lives_185 (by decide +kernel) ?_
                refine g_callV (wr := []) (nA := 4) hC V hl.1 (m_goes l D T n o x21_7 x21_8 fi (nI 0) w0 g1 g2 g3 g4 tp w6 w7 w8 w9 w10 w11 w12 w13 w14 g15 bv g17 w18 w19 g20 w21 g22 g23 g24 w25 w26 w27 g28 g29 w30 g31 g32 g33 f6 th hf6.1) w_1122 w_1124 w_s50 w_9 w_1125 (by decide +kernel) rfl ⟨(Nat.le_of_ble_eq_true rfl), (Nat.le_of_ble_eq_true rfl)⟩ 0 (ci := 8) rfl rfl [0, 1, 2] [] rfl rfl rfl rfl (by decide) (Nat.le_of_ble_eq_true rfl) dX8_lives_186 ⟨(Nat.le_of_ble_eq_true rfl), (Nat.le_of_ble_eq_true rfl)⟩ rfl (fun r w1 H locs hQ V => ?_)
                obtain ⟨z_6, bm_7, ga_8, gh_9, rfl, rfl, f_10⟩ := hQ
                have V : gW D T A s [(o, .inr (8, [.int w0, .ref g1, .ref g2, .ref g3, .ref g4, .int (nI tp), .int w6, .int w7, .int w8, .int w9, .int w10, .int w11, .int w12, .int w13, .int w14, .ref g15, .int bm_7, .ref g17, .int w18, .int w19, .ref g20, .int w21, .ref g22, .ref g23, .ref g24, .int w25, .int w26, .int w27, .ref g28, .ref g29, .int w30, .ref g31, .ref g32, .ref g33])), (g1, .inl (T 0, 282, .inl ga_8)), (g15, .inl (T 0, 10, .inl gh_9))] H locs := V
                show W p l e _ s m args below meth c H locs _ _ _ (F0 m 189 ls [.int z_6, .int x6_5])
                have hga_8 : MS n fa ga_8 := ms_tr (by assumption) f_10
                refine lv_iadd hx hb dX8_lives_189 ?_
                refine lv_istore (lv' := [(5, .int (x6_5 + z_6)), (9, .int (nI 0)), (8, .int x21_8), (7, .int x21_7), (6, .int (nI k6)), (0, .ref o), (1, .int (nI cn)), (2, .int lz), (3, .int fi), (4, .int bl)]) hx hb dX8_lives_190 hl (by decide) rfl (fun ls hl => ?_)
                refine lv_iinc (v := (nI (k6 + 1))) (lv' := [(6, .int (nI (k6 + 1))), (5, .int (x6_5 + z_6)), (9, .int (nI 0)), (8, .int x21_8), (7, .int x21_7), (0, .ref o), (1, .int (nI cn)), (2, .int lz), (3, .int fi), (4, .int bl)]) hx hb dX8_lives_192 hl (k := 4) rfl (nI_1 _) (by decide) rfl (fun ls hl => ?_)
                refine lv_goto (tgt := 6) hx hb dX8_lives_195 (by decide) ?_
                exact ih_6 (k6 + 1) (x6_5 + z_6) bm_7 gh_9 ga_8 (by omega) (by assumption) (by omega) _ _ _ V (lv_sub hl [0, 1, 5, 6, 7, 8, 9] rfl)
              · skip
                obtain ⟨jf, hjf, ejf⟩ := h_fi.resolve_left c_5
                refine lv_aload_n hx hb dX8_lives_136 rfl (lv_at hl 5 rfl) ?_
                refine g_get hC V (ci := 8) uwX8 0 rfl rfl 1 (by decide) w_913 rfl rfl dX8_lives_137 ?_
                refine lv_bipush (v := (nI 24)) hx hb dX8_lives_140 (by decide +kernel) ?_
                refine lv_iload_n hx hb dX8_lives_142 rfl (lv_at hl 8 rfl) ?_
                refine g_vi (y := nI jf) ejf ?_
                refine lv_iadd hx hb dX8_lives_143 ?_
                refine g_vi (y := (nI (24 + jf))) (nI_add _ _) ?_
                obtain ⟨j_11, hj_11, ej_11⟩ := bd_ex (mi_heat hf6.1 (i := jf) (by omega))
                refine g_iald hC V 1 rfl (vp_in_nI (by omega) (by omega)) (v := (nI j_11)) (by rw [nI_clamp (by omega)]; exact ej_11) dX8_lives_144 ?_
                refine lv_iload hx hb dX8_lives_145 (lv_at hl 9 rfl) ?_
                refine lv_iadd hx hb dX8_lives_147 ?_
                refine lv_aload_n hx hb dX8_lives_148 rfl (lv_at hl 5 rfl) ?_
                refine g_get hC V (ci := 8) uwX8 0 rfl rfl 1 (by decide) w_913 rfl rfl dX8_lives_149 ?_
                refine lv_bipush (v := (nI 44)) hx hb dX8_lives_152 (by decide +kernel) ?_
                refine lv_iload_n hx hb dX8_lives_154 rfl (lv_at hl 8 rfl) ?_
                refine g_vi (y := nI jf) ejf ?_
                refine lv_iadd hx hb dX8_lives_155 ?_
                refine g_vi (y := (nI (44 + jf))) (nI_add _ _) ?_
                refine g_iald hC V 1 rfl (vp_in_nI (by omega) (by omega)) (v := (f6 (44 + jf))) (congrArg _ (nI_clamp (by omega))) dX8_lives_156 ?_
                refine lv_icmp_gt (tgt := 164) hx hb dX8_lives_157 (by decide) (fun c_12 => ?_) (fun c_12 => ?_)
                · skip
                  refine lv_iconst (v := (nI 0)) hx hb dX8_lives_164 (by decide +kernel) ?_
                  refine lv_istore (lv' := [(9, .int (nI 0)), (8, .int x21_8), (7, .int x21_7), (6, .int (nI k6)), (5, .int x6_5), (0, .ref o), (1, .int (nI cn)), (2, .int lz), (3, .int fi), (4, .int bl)]) hx hb dX8_lives_165 hl (by decide) rfl (fun ls hl => ?_)
                  refine lv_iload hx hb dX8_lives_167 (lv_at hl 4 rfl) ?_
                  refine lv_aload_n hx hb dX8_lives_169 rfl (lv_at hl 5 rfl) ?_
                  refine lv_iload hx hb dX8_lives_170 (lv_at hl 2 rfl) ?_
                  refine lv_iload hx hb dX8_lives_172 (lv_at hl 1 rfl) ?_
                  refine lv_iload_n hx hb dX8_lives_174 rfl (lv_at hl 8 rfl) ?_
                  refine lv_iload hx hb dX8_lives_175 (lv_at hl 0 rfl) ?_
                  refine lv_if_eq (tgt := 185) hx hb dX8_lives_177 (by decide) (fun _ => ?_) (fun c => absurd (show (nI 0) = 0 by decide +kernel) c)
                  refine lv_iconst (v := (nI 0)) hx hb dX8_lives_185 (by decide +kernel) ?_
                  refine g_callV (wr := []) (nA := 4) hC V hl.1 (m_goes l D T n o x21_7 x21_8 fi (nI 0) w0 g1 g2 g3 g4 tp w6 w7 w8 w9 w10 w11 w12 w13 w14 g15 bv g17 w18 w19 g20 w21 g22 g23 g24 w25 w26 w27 g28 g29 w30 g31 g32 g33 f6 th hf6.1) w_1122 w_1124 w_s50 w_9 w_1125 (by decide +kernel) rfl ⟨(Nat.le_of_ble_eq_true rfl), (Nat.le_of_ble_eq_true rfl)⟩ 0 (ci := 8) rfl rfl [0, 1, 2] [] rfl rfl rfl rfl (by decide) (Nat.le_of_ble_eq_true rfl) dX8_lives_186 ⟨(Nat.le_of_ble_eq_true rfl), (Nat.le_of_ble_eq_true rfl)⟩ rfl (fun r w1 H locs hQ V => ?_)
                  obtain ⟨z_13, bm_14, ga_15, gh_16, rfl, rfl, f_17⟩ := hQ
                  have V : gW D T A s [(o, .inr (8, [.int w0, .ref g1, .ref g2, .ref g3, .ref g4, .int (nI tp), .int w6, .int w7, .int w8, .int w9, .int w10, .int w11, .int w12, .int w13, .int w14, .ref g15, .int bm_14, .ref g17, .int w18, .int w19, .ref g20, .int w21, .ref g22, .ref g23, .ref g24, .int w25, .int w26, .int w27, .ref g28, .ref g29, .int w30, .ref g31, .ref g32, .ref g33])), (g1, .inl (T 0, 282, .inl ga_15)), (g15, .inl (T 0, 10, .inl gh_16))] H locs := V
                  show W p l e _ s m args below meth c H locs _ _ _ (F0 m 189 ls [.int z_13, .int x6_5])
                  have hga_15 : MS n fa ga_15 := ms_tr (by assumption) f_17
                  refine lv_iadd hx hb dX8_lives_189 ?_
                  refine lv_istore (lv' := [(5, .int (x6_5 + z_13)), (9, .int (nI 0)), (8, .int x21_8), (7, .int x21_7), (6, .int (nI k6)), (0, .ref o), (1, .int (nI cn)), (2, .int lz), (3, .int fi), (4, .int bl)]) hx hb dX8_lives_190 hl (by decide) rfl (fun ls hl => ?_)
                  refine lv_iinc (v := (nI (k6 + 1))) (lv' := [(6, .int (nI (k6 + 1))), (5, .int (x6_5 + z_13)), (9, .int (nI 0)), (8, .int x21_8), (7, .int x21_7), (0, .ref o), (1, .int (nI cn)), (2, .int lz), (3, .int fi), (4, .int bl)]) hx hb dX8_lives_192 hl (k := 4) rfl (nI_1 _) (by decide) rfl (fun ls hl => ?_)
                  refine lv_goto (tgt := 6) hx hb dX8_lives_195 (by decide) ?_
                  exact ih_6 (k6 + 1) (x6_5 + z_13) bm_14 gh_16 ga_15 (by omega) (by assumption) (by omega) _ _ _ V (lv_sub hl [0, 1, 5, 6, 7, 8, 9] rfl)
                · skip
                  refine lv_iconst (v := (nI 1)) hx hb dX8_lives_160 (by decide +kernel) ?_
                  refine lv_goto (tgt := 165) hx hb dX8_lives_161 (by decide) ?_
                  refine lv_istore (lv' := [(9, .int (nI 1)), (8, .int x21_8), (7, .int x21_7), (6, .int (nI k6)), (5, .int x6_5), (0, .ref o), (1, .int (nI cn)), (2, .int lz), (3, .int fi), (4, .int bl)]) hx hb dX8_lives_165 hl (by decide) rfl (fun ls hl => ?_)
                  refine lv_iload hx hb dX8_lives_167 (lv_at hl 4 rfl) ?_
                  refine lv_aload_n hx hb dX8_lives_169 rfl (lv_at hl 5 rfl) ?_
                  refine lv_iload hx hb dX8_lives_170 (lv_at hl 2 rfl) ?_
                  refine lv_iload hx hb dX8_lives_172 (lv_at hl 1 rfl) ?_
                  refine lv_iload_n hx hb dX8_lives_174 rfl (lv_at hl 8 rfl) ?_
                  refine lv_iload hx hb dX8_lives_175 (lv_at hl 0 rfl) ?_
                  refine lv_if_eq (tgt := 185) hx hb dX8_lives_177 (by decide) (fun c => absurd (show (nI 1) = 0 from c) (by decide +kernel)) (fun _ => ?_)
                  refine lv_iload hx hb dX8_lives_180 (lv_at hl 9 rfl) ?_
                  refine lv_goto (tgt := 186) hx hb dX8_lives_182 (by decide) ?_
                  refine g_callV (wr := []) (nA := 4) hC V hl.1 (m_goes l D T n o x21_7 x21_8 fi bl w0 g1 g2 g3 g4 tp w6 w7 w8 w9 w10 w11 w12 w13 w14 g15 bv g17 w18 w19 g20 w21 g22 g23 g24 w25 w26 w27 g28 g29 w30 g31 g32 g33 f6 th hf6.1) w_1122 w_1124 w_s50 w_9 w_1125 (by decide +kernel) rfl ⟨(Nat.le_of_ble_eq_true rfl), (Nat.le_of_ble_eq_true rfl)⟩ 0 (ci := 8) rfl rfl [0, 1, 2] [] rfl rfl rfl rfl (by decide) (Nat.le_of_ble_eq_true rfl) dX8_lives_186 ⟨(Nat.le_of_ble_eq_true rfl), (Nat.le_of_ble_eq_true rfl)⟩ rfl (fun r w1 H locs hQ V => ?_)
                  obtain ⟨z_18, bm_19, ga_20, gh_21, rfl, rfl, f_22⟩ := hQ
                  have V : gW D T A s [(o, .inr (8, [.int w0, .ref g1, .ref g2, .ref g3, .ref g4, .int (nI tp), .int w6, .int w7, .int w8, .int w9, .int w10, .int w11, .int w12, .int w13, .int w14, .ref g15, .int bm_19, .ref g17, .int w18, .int w19, .ref g20, .int w21, .ref g22, .ref g23, .ref g24, .int w25, .int w26, .int w27, .ref g28, .ref g29, .int w30, .ref g31, .ref g32, .ref g33])), (g1, .inl (T 0, 282, .inl ga_20)), (g15, .inl (T 0, 10, .inl gh_21))] H locs := V
                  show W p l e _ s m args below meth c H locs _ _ _ (F0 m 189 ls [.int z_18, .int x6_5])
                  have hga_20 : MS n fa ga_20 := ms_tr (by assumption) f_22
                  refine lv_iadd hx hb dX8_lives_189 ?_
                  refine lv_istore (lv' := [(5, .int (x6_5 + z_18)), (9, .int (nI 1)), (8, .int x21_8), (7, .int x21_7), (6, .int (nI k6)), (0, .ref o), (1, .int (nI cn)), (2, .int lz), (3, .int fi), (4, .int bl)]) hx hb dX8_lives_190 hl (by decide) rfl (fun ls hl => ?_)
                  refine lv_iinc (v := (nI (k6 + 1))) (lv' := [(6, .int (nI (k6 + 1))), (5, .int (x6_5 + z_18)), (9, .int (nI 1)), (8, .int x21_8), (7, .int x21_7), (0, .ref o), (1, .int (nI cn)), (2, .int lz), (3, .int fi), (4, .int bl)]) hx hb dX8_lives_192 hl (k := 4) rfl (nI_1 _) (by decide) rfl (fun ls hl => ?_)
                  refine lv_goto (tgt := 6) hx hb dX8_lives_195 (by decide) ?_
                  exact ih_6 (k6 + 1) (x6_5 + z_18) bm_19 gh_21 ga_20 (by omega) (by assumption) (by omega) _ _ _ V (lv_sub hl [0, 1, 5, 6, 7, 8, 9] rfl)
            · skip
              have c_4 := b_nle (by omega) (by omega) c_4
              refine lv_iload hx hb dX8_lives_32 (lv_at hl 0 rfl) ?_
              refine lv_iload_n hx hb dX8_lives_34 rfl (lv_at hl 7 rfl) ?_
              refine lv_icmp_ne (tgt := 41) hx hb dX8_lives_35 (by decide) (fun c_23 => ?_) (fun c_23 => ?_)
              · skip
                refine lv_aload_n hx hb dX8_lives_41 rfl (lv_at hl 5 rfl) ?_
                refine g_get hC V (ci := 8) uwX8 0 rfl rfl 1 (by decide) w_913 rfl rfl dX8_lives_42 ?_
                refine lv_bipush (v := (nI 84)) hx hb dX8_lives_45 (by decide +kernel) ?_
                refine lv_iload hx hb dX8_lives_47 (lv_at hl 0 rfl) ?_
                refine lv_iadd hx hb dX8_lives_49 ?_
                refine g_vi (y := (nI (84 + k21))) (nI_add _ _) ?_
                obtain ⟨j_24, hj_24, ej_24⟩ := bd_ex (mi_to hf6.1 (i := k21) (by omega))
                refine g_iald hC V 1 rfl (vp_in_nI (by omega) (by omega)) (v := (nI j_24)) (by rw [nI_clamp (by omega)]; exact ej_24) dX8_lives_50 ?_
                refine lv_istore (lv' := [(10, .int (nI j_24)), (9, .int (nI k21)), (8, .int x21_8), (7, .int x21_7), (6, .int (nI k6)), (5, .int x6_5), (0, .ref o), (1, .int (nI cn)), (2, .int lz), (3, .int fi), (4, .int bl)]) hx hb dX8_lives_51 hl (by decide) rfl (fun ls hl => ?_)
                refine lv_aload_n hx hb dX8_lives_53 rfl (lv_at hl 6 rfl) ?_
                refine lv_iload hx hb dX8_lives_54 (lv_at hl 1 rfl) ?_
                refine g_callVU (nA := 1) hC V hl.1 (m_isWarm l D T o k21 w0 g1 g2 g3 g4 tp w6 w7 w8 w9 w10 w11 w12 w13 w14 g15 bv g17 w18 w19 g20 w21 g22 g23 g24 w25 w26 w27 g28 g29 w30 g31 g32 g33 f6 (by first | assumption | omega)) w_1136 w_1138 w_s52 w_9 w_1139 (by decide +kernel) rfl ⟨(Nat.le_of_ble_eq_true rfl), (Nat.le_of_ble_eq_true rfl)⟩ 0 (ci := 8) rfl rfl [0, 1] rfl rfl (Nat.le_of_ble_eq_true rfl) dX8_lives_56 ⟨(Nat.le_of_ble_eq_true rfl), (Nat.le_of_ble_eq_true rfl)⟩ rfl (fun r w1 H locs hQ V => ?_)
                rcases hQ with ⟨rfl, rfl⟩ | ⟨rfl, rfl⟩
                · have V : gW D T A s [(o, .inr (8, [.int w0, .ref g1, .ref g2, .ref g3, .ref g4, .int (nI tp), .int w6, .int w7, .int w8, .int w9, .int w10, .int w11, .int w12, .int w13, .int w14, .ref g15, .int bv, .ref g17, .int w18, .int w19, .ref g20, .int w21, .ref g22, .ref g23, .ref g24, .int w25, .int w26, .int w27, .ref g28, .ref g29, .int w30, .ref g31, .ref g32, .ref g33])), (g1, .inl (T 0, 282, .inl f6)), (g15, .inl (T 0, 10, .inl th))] H locs := V _ [0, 0] rfl rfl rfl (by decide +kernel) rfl
                  show W p l e _ s m args below meth c H locs _ _ _ (F0 m 59 ls [.int (nI 1)])
                  refine lv_if_eq (tgt := 83) hx hb dX8_lives_59 (by decide) (fun c => absurd (show (nI 1) = 0 from c) (by decide +kernel)) (fun _ => ?_)
                  refine lv_aload_n hx hb dX8_lives_62 rfl (lv_at hl 6 rfl) ?_
                  refine lv_iload hx hb dX8_lives_63 (lv_at hl 1 rfl) ?_
                  refine g_callVU (nA := 1) hC V hl.1 (m_isDone l D T o k21 w0 g1 g2 g3 g4 tp w6 w7 w8 w9 w10 w11 w12 w13 w14 g15 bv g17 w18 w19 g20 w21 g22 g23 g24 w25 w26 w27 g28 g29 w30 g31 g32 g33 f6 (by first | assumption | omega)) w_1088 w_1090 w_s47 w_9 w_1091 (by decide +kernel) rfl ⟨(Nat.le_of_ble_eq_true rfl), (Nat.le_of_ble_eq_true rfl)⟩ 0 (ci := 8) rfl rfl [0, 1] rfl rfl (Nat.le_of_ble_eq_true rfl) dX8_lives_65 ⟨(Nat.le_of_ble_eq_true rfl), (Nat.le_of_ble_eq_true rfl)⟩ rfl (fun r w1 H locs hQ V => ?_)
                  rcases hQ with ⟨rfl, rfl, f_25⟩ | ⟨rfl, rfl, f_26⟩
                  · have V : gW D T A s [(o, .inr (8, [.int w0, .ref g1, .ref g2, .ref g3, .ref g4, .int (nI tp), .int w6, .int w7, .int w8, .int w9, .int w10, .int w11, .int w12, .int w13, .int w14, .ref g15, .int bv, .ref g17, .int w18, .int w19, .ref g20, .int w21, .ref g22, .ref g23, .ref g24, .int w25, .int w26, .int w27, .ref g28, .ref g29, .int w30, .ref g31, .ref g32, .ref g33])), (g1, .inl (T 0, 282, .inl f6)), (g15, .inl (T 0, 10, .inl th))] H locs := V _ [0, 0] rfl rfl rfl (by decide +kernel) rfl
                    show W p l e _ s m args below meth c H locs _ _ _ (F0 m 68 ls [.int (nI 1)])
                    refine lv_if_ne (tgt := 83) hx hb dX8_lives_68 (by decide) (fun _ => ?_) (fun c => absurd (show (nI 1) = 0 from c) (by decide +kernel))
                    refine lv_aload_n hx hb dX8_lives_83 rfl (lv_at hl 6 rfl) ?_
                    refine g_get hC V (ci := 8) uwX8 0 rfl rfl 1 (by decide) w_913 rfl rfl dX8_lives_84 ?_
                    refine lv_bipush (v := (nI 24)) hx hb dX8_lives_87 (by decide +kernel) ?_
                    refine lv_iload hx hb dX8_lives_89 (lv_at hl 0 rfl) ?_
                    refine lv_iadd hx hb dX8_lives_91 ?_
                    refine g_vi (y := (nI (24 + j_24))) (nI_add _ _) ?_
                    obtain ⟨j_27, hj_27, ej_27⟩ := bd_ex (mi_heat hf6.1 (i := j_24) (by omega))
                    refine g_iald hC V 1 rfl (vp_in_nI (by omega) (by omega)) (v := (nI j_27)) (by rw [nI_clamp (by omega)]; exact ej_27) dX8_lives_92 ?_
                    refine lv_aload_n hx hb dX8_lives_93 rfl (lv_at hl 6 rfl) ?_
                    refine g_get hC V (ci := 8) uwX8 0 rfl rfl 1 (by decide) w_913 rfl rfl dX8_lives_94 ?_
                    refine lv_iconst (v := (nI 4)) hx hb dX8_lives_97 (by decide +kernel) ?_
                    refine lv_iload hx hb dX8_lives_98 (lv_at hl 1 rfl) ?_
                    refine lv_iadd hx hb dX8_lives_100 ?_
                    refine g_vi (y := (nI (4 + k21))) (nI_add _ _) ?_
                    obtain ⟨j_28, hj_28, ej_28⟩ := bd_ex (mi_blast hf6.1 (i := k21) (by omega))
                    refine g_iald hC V 1 rfl (vp_in_nI (by omega) (by omega)) (v := (nI j_28)) (by rw [nI_clamp (by omega)]; exact ej_28) dX8_lives_101 ?_
                    refine lv_iadd hx hb dX8_lives_102 ?_
                    refine g_vi (y := (nI (j_27 + j_28))) (nI_add _ _) ?_
                    refine lv_aload_n hx hb dX8_lives_103 rfl (lv_at hl 6 rfl) ?_
                    refine g_get hC V (ci := 8) uwX8 0 rfl rfl 1 (by decide) w_913 rfl rfl dX8_lives_104 ?_
                    refine lv_bipush (v := (nI 44)) hx hb dX8_lives_107 (by decide +kernel) ?_
                    refine lv_iload hx hb dX8_lives_109 (lv_at hl 0 rfl) ?_
                    refine lv_iadd hx hb dX8_lives_111 ?_
                    refine g_vi (y := (nI (44 + j_24))) (nI_add _ _) ?_
                    refine g_iald hC V 1 rfl (vp_in_nI (by omega) (by omega)) (v := (f6 (44 + j_24))) (congrArg _ (nI_clamp (by omega))) dX8_lives_112 ?_
                    refine lv_icmp_gt (tgt := 125) hx hb dX8_lives_113 (by decide) (fun c_29 => ?_) (fun c_29 => ?_)
                    · skip
                      refine lv_iinc (v := (nI (k21 + 1))) (lv' := [(9, .int (nI (k21 + 1))), (10, .int (nI j_24)), (8, .int x21_8), (7, .int x21_7), (6, .int (nI k6)), (5, .int x6_5), (0, .ref o), (1, .int (nI cn)), (2, .int lz), (3, .int fi), (4, .int bl)]) hx hb dX8_lives_125 hl (k := 1) rfl (nI_1 _) (by decide) rfl (fun ls hl => ?_)
                      refine lv_goto (tgt := 21) hx hb dX8_lives_128 (by decide) ?_
                      exact ih_21 (k21 + 1) x21_8 x21_7 (by omega) (by omega) _ _ _ V (lv_sub hl [0, 2, 3, 4, 5, 6, 7, 8, 9, 10] rfl)
                    · skip
                      refine lv_iload hx hb dX8_lives_116 (lv_at hl 3 rfl) ?_
                      refine lv_iconst (v := (nI 1)) hx hb dX8_lives_118 (by decide +kernel) ?_
                      refine lv_iload hx hb dX8_lives_119 (lv_at hl 1 rfl) ?_
                      refine lv_ishl hx hb dX8_lives_121 ?_
                      refine lv_ior hx hb dX8_lives_122 ?_
                      refine lv_istore (lv' := [(7, .int (x21_7 ||| ((nI 1) <<< ((nI k21) &&& 31)))), (10, .int (nI j_24)), (9, .int (nI k21)), (8, .int x21_8), (6, .int (nI k6)), (5, .int x6_5), (0, .ref o), (1, .int (nI cn)), (2, .int lz), (3, .int fi), (4, .int bl)]) hx hb dX8_lives_123 hl (by decide) rfl (fun ls hl => ?_)
                      refine lv_iinc (v := (nI (k21 + 1))) (lv' := [(9, .int (nI (k21 + 1))), (7, .int (x21_7 ||| ((nI 1) <<< ((nI k21) &&& 31)))), (10, .int (nI j_24)), (8, .int x21_8), (6, .int (nI k6)), (5, .int x6_5), (0, .ref o), (1, .int (nI cn)), (2, .int lz), (3, .int fi), (4, .int bl)]) hx hb dX8_lives_125 hl (k := 2) rfl (nI_1 _) (by decide) rfl (fun ls hl => ?_)
                      refine lv_goto (tgt := 21) hx hb dX8_lives_128 (by decide) ?_
                      exact ih_21 (k21 + 1) x21_8 (x21_7 ||| ((nI 1) <<< ((nI k21) &&& 31))) (by omega) (by omega) _ _ _ V (lv_sub hl [0, 3, 1, 4, 5, 6, 7, 8, 9, 10] rfl)
                  · have V : gW D T A s [(o, .inr (8, [.int w0, .ref g1, .ref g2, .ref g3, .ref g4, .int (nI tp), .int w6, .int w7, .int w8, .int w9, .int w10, .int w11, .int w12, .int w13, .int w14, .ref g15, .int bv, .ref g17, .int w18, .int w19, .ref g20, .int w21, .ref g22, .ref g23, .ref g24, .int w25, .int w26, .int w27, .ref g28, .ref g29, .int w30, .ref g31, .ref g32, .ref g33])), (g1, .inl (T 0, 282, .inl f6)), (g15, .inl (T 0, 10, .inl th))] H locs := V _ [0, 0] rfl rfl rfl (by decide +kernel) rfl
                    show W p l e _ s m args below meth c H locs _ _ _ (F0 m 68 ls [.int (nI 0)])
                    refine lv_if_ne (tgt := 83) hx hb dX8_lives_68 (by decide) (fun c => absurd (show (nI 0) = 0 by decide +kernel) c) (fun _ => ?_)
                    refine lv_iload hx hb dX8_lives_71 (lv_at hl 2 rfl) ?_
                    refine lv_iconst (v := (nI 1)) hx hb dX8_lives_73 (by decide +kernel) ?_
                    refine lv_iload hx hb dX8_lives_74 (lv_at hl 1 rfl) ?_
                    refine lv_ishl hx hb dX8_lives_76 ?_
                    refine lv_ior hx hb dX8_lives_77 ?_
                    refine lv_istore (lv' := [(8, .int (x21_8 ||| ((nI 1) <<< ((nI k21) &&& 31)))), (10, .int (nI j_24)), (9, .int (nI k21)), (7, .int x21_7), (6, .int (nI k6)), (5, .int x6_5), (0, .ref o), (1, .int (nI cn)), (2, .int lz), (3, .int fi), (4, .int bl)]) hx hb dX8_lives_78 hl (by decide) rfl (fun ls hl => ?_)
                    refine lv_goto (tgt := 125) hx hb dX8_lives_80 (by decide) ?_
                    refine lv_iinc (v := (nI (k21 + 1))) (lv' := [(9, .int (nI (k21 + 1))), (8, .int (x21_8 ||| ((nI 1) <<< ((nI k21) &&& 31)))), (10, .int (nI j_24)), (7, .int x21_7), (6, .int (nI k6)), (5, .int x6_5), (0, .ref o), (1, .int (nI cn)), (2, .int lz), (3, .int fi), (4, .int bl)]) hx hb dX8_lives_125 hl (k := 2) rfl (nI_1 _) (by decide) rfl (fun ls hl => ?_)
                    refine lv_goto (tgt := 21) hx hb dX8_lives_128 (by decide) ?_
                    exact ih_21 (k21 + 1) (x21_8 ||| ((nI 1) <<< ((nI k21) &&& 31))) x21_7 (by omega) (by omega) _ _ _ V (lv_sub hl [0, 1, 3, 4, 5, 6, 7, 8, 9, 10] rfl)
                · have V : gW D T A s [(o, .inr (8, [.int w0, .ref g1, .ref g2, .ref g3, .ref g4, .int (nI tp), .int w6, .int w7, .int w8, .int w9, .int w10, .int w11, .int w12, .int w13, .int w14, .ref g15, .int bv, .ref g17, .int w18, .int w19, .ref g20, .int w21, .ref g22, .ref g23, .ref g24, .int w25, .int w26, .int w27, .ref g28, .ref g29, .int w30, .ref g31, .ref g32, .ref g33])), (g1, .inl (T 0, 282, .inl f6)), (g15, .inl (T 0, 10, .inl th))] H locs := V _ [0, 0] rfl rfl rfl (by decide +kernel) rfl
                  show W p l e _ s m args below meth c H locs _ _ _ (F0 m 59 ls [.int (nI 0)])
                  refine lv_if_eq (tgt := 83) hx hb dX8_lives_59 (by decide) (fun _ => ?_) (fun c => absurd (show (nI 0) = 0 by decide +kernel) c)
                  refine lv_aload_n hx hb dX8_lives_83 rfl (lv_at hl 6 rfl) ?_
                  refine g_get hC V (ci := 8) uwX8 0 rfl rfl 1 (by decide) w_913 rfl rfl dX8_lives_84 ?_
                  refine lv_bipush (v := (nI 24)) hx hb dX8_lives_87 (by decide +kernel) ?_
                  refine lv_iload hx hb dX8_lives_89 (lv_at hl 0 rfl) ?_
                  refine lv_iadd hx hb dX8_lives_91 ?_
                  refine g_vi (y := (nI (24 + j_24))) (nI_add _ _) ?_
                  obtain ⟨j_30, hj_30, ej_30⟩ := bd_ex (mi_heat hf6.1 (i := j_24) (by omega))
                  refine g_iald hC V 1 rfl (vp_in_nI (by omega) (by omega)) (v := (nI j_30)) (by rw [nI_clamp (by omega)]; exact ej_30) dX8_lives_92 ?_
                  refine lv_aload_n hx hb dX8_lives_93 rfl (lv_at hl 6 rfl) ?_
                  refine g_get hC V (ci := 8) uwX8 0 rfl rfl 1 (by decide) w_913 rfl rfl dX8_lives_94 ?_
                  refine lv_iconst (v := (nI 4)) hx hb dX8_lives_97 (by decide +kernel) ?_
                  refine lv_iload hx hb dX8_lives_98 (lv_at hl 1 rfl) ?_
                  refine lv_iadd hx hb dX8_lives_100 ?_
                  refine g_vi (y := (nI (4 + k21))) (nI_add _ _) ?_
                  obtain ⟨j_31, hj_31, ej_31⟩ := bd_ex (mi_blast hf6.1 (i := k21) (by omega))
                  refine g_iald hC V 1 rfl (vp_in_nI (by omega) (by omega)) (v := (nI j_31)) (by rw [nI_clamp (by omega)]; exact ej_31) dX8_lives_101 ?_
                  refine lv_iadd hx hb dX8_lives_102 ?_
                  refine g_vi (y := (nI (j_30 + j_31))) (nI_add _ _) ?_
                  refine lv_aload_n hx hb dX8_lives_103 rfl (lv_at hl 6 rfl) ?_
                  refine g_get hC V (ci := 8) uwX8 0 rfl rfl 1 (by decide) w_913 rfl rfl dX8_lives_104 ?_
                  refine lv_bipush (v := (nI 44)) hx hb dX8_lives_107 (by decide +kernel) ?_
                  refine lv_iload hx hb dX8_lives_109 (lv_at hl 0 rfl) ?_
                  refine lv_iadd hx hb dX8_lives_111 ?_
                  refine g_vi (y := (nI (44 + j_24))) (nI_add _ _) ?_
                  refine g_iald hC V 1 rfl (vp_in_nI (by omega) (by omega)) (v := (f6 (44 + j_24))) (congrArg _ (nI_clamp (by omega))) dX8_lives_112 ?_
                  refine lv_icmp_gt (tgt := 125) hx hb dX8_lives_113 (by decide) (fun c_32 => ?_) (fun c_32 => ?_)
                  · skip
                    refine lv_iinc (v := (nI (k21 + 1))) (lv' := [(9, .int (nI (k21 + 1))), (10, .int (nI j_24)), (8, .int x21_8), (7, .int x21_7), (6, .int (nI k6)), (5, .int x6_5), (0, .ref o), (1, .int (nI cn)), (2, .int lz), (3, .int fi), (4, .int bl)]) hx hb dX8_lives_125 hl (k := 1) rfl (nI_1 _) (by decide) rfl (fun ls hl => ?_)
                    refine lv_goto (tgt := 21) hx hb dX8_lives_128 (by decide) ?_
                    exact ih_21 (k21 + 1) x21_8 x21_7 (by omega) (by omega) _ _ _ V (lv_sub hl [0, 2, 3, 4, 5, 6, 7, 8, 9, 10] rfl)
                  · skip
                    refine lv_iload hx hb dX8_lives_116 (lv_at hl 3 rfl) ?_
                    refine lv_iconst (v := (nI 1)) hx hb dX8_lives_118 (by decide +kernel) ?_
                    refine lv_iload hx hb dX8_lives_119 (lv_at hl 1 rfl) ?_
                    refine lv_ishl hx hb dX8_lives_121 ?_
                    refine lv_ior hx hb dX8_lives_122 ?_
                    refine lv_istore (lv' := [(7, .int (x21_7 ||| ((nI 1) <<< ((nI k21) &&& 31)))), (10, .int (nI j_24)), (9, .int (nI k21)), (8, .int x21_8), (6, .int (nI k6)), (5, .int x6_5), (0, .ref o), (1, .int (nI cn)), (2, .int lz), (3, .int fi), (4, .int bl)]) hx hb dX8_lives_123 hl (by decide) rfl (fun ls hl => ?_)
                    refine lv_iinc (v := (nI (k21 + 1))) (lv' := [(9, .int (nI (k21 + 1))), (7, .int (x21_7 ||| ((nI 1) <<< ((nI k21) &&& 31)))), (10, .int (nI j_24)), (8, .int x21_8), (6, .int (nI k6)), (5, .int x6_5), (0, .ref o), (1, .int (nI cn)), (2, .int lz), (3, .int fi), (4, .int bl)]) hx hb dX8_lives_125 hl (k := 2) rfl (nI_1 _) (by decide) rfl (fun ls hl => ?_)
                    refine lv_goto (tgt := 21) hx hb dX8_lives_128 (by decide) ?_
                    exact ih_21 (k21 + 1) x21_8 (x21_7 ||| ((nI 1) <<< ((nI k21) &&& 31))) (by omega) (by omega) _ _ _ V (lv_sub hl [0, 3, 1, 4, 5, 6, 7, 8, 9, 10] rfl)
              · skip
                refine lv_goto (tgt := 125) hx hb dX8_lives_38 (by decide) ?_
                refine lv_iinc (v := (nI (k21 + 1))) (lv' := [(9, .int (nI (k21 + 1))), (8, .int x21_8), (7, .int x21_7), (6, .int (nI k6)), (5, .int x6_5), (0, .ref o), (1, .int (nI cn)), (2, .int lz), (3, .int fi), (4, .int bl)]) hx hb dX8_lives_125 hl (k := 0) rfl (nI_1 _) (by decide) rfl (fun ls hl => ?_)
                refine lv_goto (tgt := 21) hx hb dX8_lives_128 (by decide) ?_
                exact ih_21 (k21 + 1) x21_8 x21_7 (by omega) (by omega) _ _ _ V (lv_sub hl [0, 1, 2, 3, 4, 5, 6, 7, 8, 9] rfl)
        exact L_3 _ 0 (nI 0) (nI 0) (by omega) (Nat.lt_succ_self _) _ _ _ V (lv_sub hl [0, 1, 2, 3, 4, 5, 6, 7, 8, 9] rfl)
  exact L_1 _ 0 (nI 0) w16 fh fa (by omega) (by assumption) (Nat.lt_succ_self _) _ _ _ V (lv_sub hl [0, 1, 2, 3, 4, 5, 6] rfl)

def q_m_doneBy (T : Nat → ClassId) (n : Nat) (o : Nat) (cn : Nat) (lz : Int32) (fi : Int32) (bl : Int32) (w0 : Int32) (g1 : Nat) (g2 : Nat) (g3 : Nat) (g4 : Nat) (tp : Nat) (w6 : Int32) (w7 : Int32) (w8 : Int32) (w9 : Int32) (w10 : Int32) (w11 : Int32) (w12 : Int32) (w13 : Int32) (w14 : Int32) (g15 : Nat) (w16 : Int32) (g17 : Nat) (w18 : Int32) (w19 : Int32) (g20 : Nat) (w21 : Int32) (g22 : Nat) (g23 : Nat) (g24 : Nat) (w25 : Int32) (w26 : Int32) (w27 : Int32) (g28 : Nat) (g29 : Nat) (w30 : Int32) (g31 : Nat) (g32 : Nat) (g33 : Nat) (fa : Nat → Int32) (fh : Nat → Int32) (fk : Nat → Int32) : Option Value → va_W → Prop := fun rr ww => (∃ (z : Int32) (bm : Int32) (gh : Nat → Int32) (gk : Nat → Int32), rr = some (.int z) ∧ ww = [(o, .inr (8, [.int w0, .ref g1, .ref g2, .ref g3, .ref g4, .int (nI tp), .int w6, .int w7, .int w8, .int w9, .int w10, .int w11, .int w12, .int w13, .int w14, .ref g15, .int bm, .ref g17, .int w18, .int w19, .ref g20, .int w21, .ref g22, .ref g23, .ref g24, .int w25, .int w26, .int w27, .ref g28, .ref g29, .int w30, .ref g31, .ref g32, .ref g33])), (g1, .inl (T 0, 282, .inl fa)), (g15, .inl (T 0, 10, .inl gh)), (g17, .inl (T 0, 94, .inl gk))])
set_option maxHeartbeats 4000000 in
set_option maxRecDepth 100000 in
theorem m_doneBy (l : Launch) (D : va_G) (T : Nat → ClassId) (n : Nat) (o : Nat) (cn : Nat) (lz : Int32) (fi : Int32) (bl : Int32) (w0 : Int32) (g1 : Nat) (g2 : Nat) (g3 : Nat) (g4 : Nat) (tp : Nat) (w6 : Int32) (w7 : Int32) (w8 : Int32) (w9 : Int32) (w10 : Int32) (w11 : Int32) (w12 : Int32) (w13 : Int32) (w14 : Int32) (g15 : Nat) (w16 : Int32) (g17 : Nat) (w18 : Int32) (w19 : Int32) (g20 : Nat) (w21 : Int32) (g22 : Nat) (g23 : Nat) (g24 : Nat) (w25 : Int32) (w26 : Int32) (w27 : Int32) (g28 : Nat) (g29 : Nat) (w30 : Int32) (g31 : Nat) (g32 : Nat) (g33 : Nat) (fa : Nat → Int32) (fh : Nat → Int32) (fk : Nat → Int32) (h_a : MI n fa) (h_c : cn ≤ 1000) (h_fi : (fi = -1 ∨ bd fi n)) : Ct l yX8_doneBy cX8_doneBy 6 (some .int) 4 0 0 D T [.ref o, .int (nI cn), .int lz, .int fi, .int bl] [(o, .inr (8, [.int w0, .ref g1, .ref g2, .ref g3, .ref g4, .int (nI tp), .int w6, .int w7, .int w8, .int w9, .int w10, .int w11, .int w12, .int w13, .int w14, .ref g15, .int w16, .ref g17, .int w18, .int w19, .ref g20, .int w21, .ref g22, .ref g23, .ref g24, .int w25, .int w26, .int w27, .ref g28, .ref g29, .int w30, .ref g31, .ref g32, .ref g33])), (g1, .inl (T 0, 282, .inl fa)), (g15, .inl (T 0, 10, .inl fh)), (g17, .inl (T 0, 94, .inl fk))] (q_m_doneBy T n o cn lz fi bl w0 g1 g2 g3 g4 tp w6 w7 w8 w9 w10 w11 w12 w13 w14 g15 w16 g17 w18 w19 g20 w21 g22 g23 g24 w25 w26 w27 g28 g29 w30 g31 g32 g33 fa fh fk) := by
  refine Ct.of (cc := cX8_doneBy) (maxL := 6) (ret := (some .int)) (by decide) (Nat.le_of_ble_eq_true rfl) ?_
  intro p e s m args below meth c A ls hC hnm V hl
  obtain ⟨hx, hb, hr, hml, hown, hts, hlocks⟩ := id hC
  generalize hH : s.heap = H at V ⊢
  clear hH
  have hl : lv_has ls 6 [(0, .ref o), (1, .int (nI cn)), (2, .int lz), (3, .int fi), (4, .int bl)] := hl
  generalize hlo : ([] : List Loc) = locs at V ⊢
  clear hlo
  have ms0 := ms_rf h_a
  have hn10 := h_a.1
  refine lv_aload_n hx hb dX8_doneBy_0 rfl (lv_at hl 0 rfl) ?_
  refine g_callVU (nA := 0) hC V hl.1 (m_keeps l D T o w0 g1 g2 g3 g4 tp w6 w7 w8 w9 w10 w11 w12 w13 w14 g15 w16 g17 w18 w19 g20 w21 g22 g23 g24 w25 w26 w27 g28 g29 w30 g31 g32 g33 fa fk) w_1146 w_1148 w_s53 w_9 w_1149 (by decide +kernel) rfl ⟨(Nat.le_of_ble_eq_true rfl), (Nat.le_of_ble_eq_true rfl)⟩ 0 (ci := 8) rfl rfl [0, 1, 3] rfl rfl (Nat.le_of_ble_eq_true rfl) dX8_doneBy_1 ⟨(Nat.le_of_ble_eq_true rfl), (Nat.le_of_ble_eq_true rfl)⟩ rfl (fun r w1 H locs hQ V => ?_)
  obtain ⟨gk_1, rfl, rfl, f_2⟩ := hQ
  have V : gW D T A s [(o, .inr (8, [.int w0, .ref g1, .ref g2, .ref g3, .ref g4, .int (nI tp), .int w6, .int w7, .int w8, .int w9, .int w10, .int w11, .int w12, .int w13, .int w14, .ref g15, .int w16, .ref g17, .int w18, .int w19, .ref g20, .int w21, .ref g22, .ref g23, .ref g24, .int w25, .int w26, .int w27, .ref g28, .ref g29, .int w30, .ref g31, .ref g32, .ref g33])), (g1, .inl (T 0, 282, .inl fa)), (g15, .inl (T 0, 10, .inl fh)), (g17, .inl (T 0, 94, .inl gk_1))] H locs := V _ [0, 0, 1] rfl rfl rfl (by decide +kernel) rfl
  show W p l e _ s m args below meth c H locs _ _ _ (F0 m 4 ls [])
  refine lv_aload_n hx hb dX8_doneBy_4 rfl (lv_at hl 0 rfl) ?_
  refine lv_iload_n hx hb dX8_doneBy_5 rfl (lv_at hl 1 rfl) ?_
  refine lv_iload_n hx hb dX8_doneBy_6 rfl (lv_at hl 2 rfl) ?_
  refine lv_iload_n hx hb dX8_doneBy_7 rfl (lv_at hl 3 rfl) ?_
  refine lv_iload hx hb dX8_doneBy_8 (lv_at hl 4 rfl) ?_
  refine g_callVU (nA := 4) hC V hl.1 (m_lives l D T n o cn lz fi bl w0 g1 g2 g3 g4 tp w6 w7 w8 w9 w10 w11 w12 w13 w14 g15 w16 g17 w18 w19 g20 w21 g22 g23 g24 w25 w26 w27 g28 g29 w30 g31 g32 g33 fa fh h_a (by first | assumption | omega) (by first | assumption | omega)) w_1183 w_1185 w_s60 w_9 w_1186 (by decide +kernel) rfl ⟨(Nat.le_of_ble_eq_true rfl), (Nat.le_of_ble_eq_true rfl)⟩ 0 (ci := 8) rfl rfl [0, 1, 2] rfl rfl (Nat.le_of_ble_eq_true rfl) dX8_doneBy_10 ⟨(Nat.le_of_ble_eq_true rfl), (Nat.le_of_ble_eq_true rfl)⟩ rfl (fun r w1 H locs hQ V => ?_)
  obtain ⟨z_3, bm_4, ga_5, gh_6, rfl, rfl, f_7⟩ := hQ
  have V : gW D T A s [(o, .inr (8, [.int w0, .ref g1, .ref g2, .ref g3, .ref g4, .int (nI tp), .int w6, .int w7, .int w8, .int w9, .int w10, .int w11, .int w12, .int w13, .int w14, .ref g15, .int bm_4, .ref g17, .int w18, .int w19, .ref g20, .int w21, .ref g22, .ref g23, .ref g24, .int w25, .int w26, .int w27, .ref g28, .ref g29, .int w30, .ref g31, .ref g32, .ref g33])), (g1, .inl (T 0, 282, .inl ga_5)), (g15, .inl (T 0, 10, .inl gh_6)), (g17, .inl (T 0, 94, .inl gk_1))] H locs := V _ [0, 0, 0] rfl rfl rfl (by decide +kernel) rfl
  show W p l e _ s m args below meth c H locs _ _ _ (F0 m 13 ls [.int z_3])
  have hga_5 : MS n fa ga_5 := ms_tr (by assumption) f_7
  refine lv_pop hx hb dX8_doneBy_13 rfl ?_
  refine lv_aload_n hx hb dX8_doneBy_14 rfl (lv_at hl 0 rfl) ?_
  refine g_callVU (nA := 0) hC V hl.1 (m_doneMany l D T n o w0 g1 g2 g3 g4 tp w6 w7 w8 w9 w10 w11 w12 w13 w14 g15 bm_4 g17 w18 w19 g20 w21 g22 g23 g24 w25 w26 w27 g28 g29 w30 g31 g32 g33 ga_5 hga_5.1) w_1158 w_1160 w_s56 w_9 w_1161 (by decide +kernel) rfl ⟨(Nat.le_of_ble_eq_true rfl), (Nat.le_of_ble_eq_true rfl)⟩ 0 (ci := 8) rfl rfl [0, 1] rfl rfl (Nat.le_of_ble_eq_true rfl) dX8_doneBy_15 ⟨(Nat.le_of_ble_eq_true rfl), (Nat.le_of_ble_eq_true rfl)⟩ rfl (fun r w1 H locs hQ V => ?_)
  obtain ⟨z_8, rfl, rfl⟩ := hQ
  have V : gW D T A s [(o, .inr (8, [.int w0, .ref g1, .ref g2, .ref g3, .ref g4, .int (nI tp), .int w6, .int w7, .int w8, .int w9, .int w10, .int w11, .int w12, .int w13, .int w14, .ref g15, .int bm_4, .ref g17, .int w18, .int w19, .ref g20, .int w21, .ref g22, .ref g23, .ref g24, .int w25, .int w26, .int w27, .ref g28, .ref g29, .int w30, .ref g31, .ref g32, .ref g33])), (g1, .inl (T 0, 282, .inl ga_5)), (g15, .inl (T 0, 10, .inl gh_6)), (g17, .inl (T 0, 94, .inl gk_1))] H locs := V _ [0, 0] rfl rfl rfl (by decide +kernel) rfl
  show W p l e _ s m args below meth c H locs _ _ _ (F0 m 18 ls [.int z_8])
  refine lv_istore (lv' := [(5, .int z_8), (0, .ref o), (1, .int (nI cn)), (2, .int lz), (3, .int fi), (4, .int bl)]) hx hb dX8_doneBy_18 hl (by decide) rfl (fun ls hl => ?_)
  refine lv_aload_n hx hb dX8_doneBy_20 rfl (lv_at hl 1 rfl) ?_
  refine g_callVU (nA := 0) hC V hl.1 (m_isAgain l D T o w0 g1 g2 g3 g4 tp w6 w7 w8 w9 w10 w11 w12 w13 w14 g15 bm_4 g17 w18 w19 g20 w21 g22 g23 g24 w25 w26 w27 g28 g29 w30 g31 g32 g33 ga_5 gk_1) w_1162 w_1164 w_s57 w_9 w_1165 (by decide +kernel) rfl ⟨(Nat.le_of_ble_eq_true rfl), (Nat.le_of_ble_eq_true rfl)⟩ 0 (ci := 8) rfl rfl [0, 1, 3] rfl rfl (Nat.le_of_ble_eq_true rfl) dX8_doneBy_21 ⟨(Nat.le_of_ble_eq_true rfl), (Nat.le_of_ble_eq_true rfl)⟩ rfl (fun r w1 H locs hQ V => ?_)
  obtain ⟨ga_9, rfl, rfl, f_10, f_11⟩ := hQ
  have V : gW D T A s [(o, .inr (8, [.int w0, .ref g1, .ref g2, .ref g3, .ref g4, .int (nI tp), .int w6, .int w7, .int w8, .int w9, .int w10, .int w11, .int w12, .int w13, .int w14, .ref g15, .int bm_4, .ref g17, .int w18, .int w19, .ref g20, .int w21, .ref g22, .ref g23, .ref g24, .int w25, .int w26, .int w27, .ref g28, .ref g29, .int w30, .ref g31, .ref g32, .ref g33])), (g1, .inl (T 0, 282, .inl ga_9)), (g15, .inl (T 0, 10, .inl gh_6)), (g17, .inl (T 0, 94, .inl gk_1))] H locs := V _ [0, 0, 1] rfl rfl rfl (by decide +kernel) rfl
  show W p l e _ s m args below meth c H locs _ _ _ (F0 m 24 ls [])
  have ega_9 : ga_9 = fa := funext (fun j => if h : j < 94 then (f_10 j h).trans (f_2 j h) else (f_11 j (by omega)).trans ((by assumption : MS n fa _).2 j (by omega)))
  rw [ega_9] at V
  refine lv_iload hx hb dX8_doneBy_24 (lv_at hl 0 rfl) ?_
  exact g_iret (Qr := (q_m_doneBy T n o cn lz fi bl w0 g1 g2 g3 g4 tp w6 w7 w8 w9 w10 w11 w12 w13 w14 g15 w16 g17 w18 w19 g20 w21 g22 g23 g24 w25 w26 w27 g28 g29 w30 g31 g32 g33 fa fh fk)) hC V ⟨(Nat.le_of_ble_eq_true rfl), (Nat.le_of_ble_eq_true rfl)⟩ ⟨z_8, bm_4, gh_6, gk_1, rfl, rfl⟩ dX8_doneBy_26

/-- where k ropes lead from i -/
def ledF (f : Nat → Int32) (i : Nat) : Nat → Nat
  | 0 => i
  | k + 1 => (f (84 + ledF f i k)).toNatClampNeg
theorem led_nx {f : Nat → Int32} {i k a j n : Nat} (h : a = ledF f i k ∧ a < n) (e : f (84 + a) = nI j) (hj : j < n) (hn : n ≤ 10) : j = ledF f i (k + 1) ∧ j < n := by
  refine ⟨?_, hj⟩
  show j = (f (84 + ledF f i k)).toNatClampNeg
  rw [← h.1, e, nI_clamp (by omega)]
theorem led_end {f : Nat → Int32} {i k k' a n : Nat} (h : a = ledF f i k ∧ a < n) (e : k = k') : a = ledF f i k' ∧ a < n := e ▸ h
theorem led_add (f : Nat → Int32) (i a : Nat) : ∀ b, ledF f (ledF f i a) b = ledF f i (a + b)
  | 0 => rfl
  | b + 1 => by
    show (f (84 + ledF f (ledF f i a) b)).toNatClampNeg = (f (84 + ledF f i (a + b))).toNatClampNeg
    rw [led_add f i a b]
theorem led_lt {f : Nat → Int32} {i n : Nat} (h : MI n f) (hi : i < n) : ∀ k, ledF f i k < n
  | 0 => hi
  | k + 1 => by
    obtain ⟨j, hj, e⟩ := mi_to h (led_lt h hi k)
    show (f (84 + ledF f i k)).toNatClampNeg < n
    have := h.1
    rw [e, nI_clamp (by omega)]; exact hj
/-- of n + 1 numbers below n two are the same -/
theorem pigeon : ∀ (n : Nat) (s : Nat → Nat), (∀ k, k ≤ n → s k < n) → ∃ a b, a < b ∧ b ≤ n ∧ s a = s b
  | 0, s, h => absurd (h 0 (Nat.le_refl 0)) (Nat.not_lt_zero _)
  | n + 1, s, h => by
    by_cases hc : ∃ k, k ≤ n ∧ s k = s (n + 1)
    · obtain ⟨k, hk, e⟩ := hc
      exact ⟨k, n + 1, by omega, Nat.le_refl _, e⟩
    · have hn : ∀ k, k ≤ n → s k ≠ s (n + 1) := fun k hk e => hc ⟨k, hk, e⟩
      obtain ⟨a, b, hab, hb, e⟩ := pigeon n (fun k => if s k = n then s (n + 1) else s k) (fun k hk => by
        have h1 := h k (by omega)
        have h2 := h (n + 1) (Nat.le_refl _)
        have h3 := hn k hk
        show (if s k = n then s (n + 1) else s k) < n
        split <;> omega)
      refine ⟨a, b, hab, by omega, ?_⟩
      have ha' := hn a (by omega)
      have hb' := hn b hb
      split at e <;> split at e <;> omega
theorem led_cyc {f : Nat → Int32} {i n : Nat} (h : MI n f) (hi : i < n) : ∃ m, 1 ≤ m ∧ m ≤ 10 ∧ ledF f (ledF f i 10) m = ledF f i 10 := by
  obtain ⟨a, b, hab, hb, e⟩ := pigeon n (ledF f i) (fun k _ => led_lt h hi k)
  have hn := h.1
  have hp : ∀ k, ledF f i (a + k) = ledF f i (b + k) := fun k => by rw [← led_add, ← led_add, e]
  refine ⟨b - a, by omega, by omega, ?_⟩
  rw [led_add]
  have := hp (10 - a)
  rw [show a + (10 - a) = 10 by omega, show b + (10 - a) = 10 + (b - a) by omega] at this
  exact this.symm

def q_m_led (T : Nat → ClassId) (n : Nat) (o : Nat) (i : Nat) (k : Nat) (w0 : Int32) (g1 : Nat) (g2 : Nat) (g3 : Nat) (g4 : Nat) (tp : Nat) (w6 : Int32) (w7 : Int32) (w8 : Int32) (w9 : Int32) (w10 : Int32) (w11 : Int32) (w12 : Int32) (w13 : Int32) (w14 : Int32) (g15 : Nat) (w16 : Int32) (g17 : Nat) (w18 : Int32) (w19 : Int32) (g20 : Nat) (w21 : Int32) (g22 : Nat) (g23 : Nat) (g24 : Nat) (w25 : Int32) (w26 : Int32) (w27 : Int32) (g28 : Nat) (g29 : Nat) (w30 : Int32) (g31 : Nat) (g32 : Nat) (g33 : Nat) (fa : Nat → Int32) : Option Value → va_W → Prop := fun rr ww => (∃ (r : Nat), rr = some (.int (nI r)) ∧ ww = [(o, .inr (8, [.int w0, .ref g1, .ref g2, .ref g3, .ref g4, .int (nI tp), .int w6, .int w7, .int w8, .int w9, .int w10, .int w11, .int w12, .int w13, .int w14, .ref g15, .int w16, .ref g17, .int w18, .int w19, .ref g20, .int w21, .ref g22, .ref g23, .ref g24, .int w25, .int w26, .int w27, .ref g28, .ref g29, .int w30, .ref g31, .ref g32, .ref g33])), (g1, .inl (T 0, 282, .inl fa))] ∧ (r = ledF fa i k ∧ r < n))
set_option maxHeartbeats 4000000 in
set_option maxRecDepth 100000 in
theorem m_led (l : Launch) (D : va_G) (T : Nat → ClassId) (n : Nat) (o : Nat) (i : Nat) (k : Nat) (w0 : Int32) (g1 : Nat) (g2 : Nat) (g3 : Nat) (g4 : Nat) (tp : Nat) (w6 : Int32) (w7 : Int32) (w8 : Int32) (w9 : Int32) (w10 : Int32) (w11 : Int32) (w12 : Int32) (w13 : Int32) (w14 : Int32) (g15 : Nat) (w16 : Int32) (g17 : Nat) (w18 : Int32) (w19 : Int32) (g20 : Nat) (w21 : Int32) (g22 : Nat) (g23 : Nat) (g24 : Nat) (w25 : Int32) (w26 : Int32) (w27 : Int32) (g28 : Nat) (g29 : Nat) (w30 : Int32) (g31 : Nat) (g32 : Nat) (g33 : Nat) (fa : Nat → Int32) (h_a : MI n fa) (h_i : i < n) (h_k : k ≤ 1000) : Ct l yX8_led cX8_led 5 (some .int) 0 0 0 D T [.ref o, .int (nI i), .int (nI k)] [(o, .inr (8, [.int w0, .ref g1, .ref g2, .ref g3, .ref g4, .int (nI tp), .int w6, .int w7, .int w8, .int w9, .int w10, .int w11, .int w12, .int w13, .int w14, .ref g15, .int w16, .ref g17, .int w18, .int w19, .ref g20, .int w21, .ref g22, .ref g23, .ref g24, .int w25, .int w26, .int w27, .ref g28, .ref g29, .int w30, .ref g31, .ref g32, .ref g33])), (g1, .inl (T 0, 282, .inl fa))] (q_m_led T n o i k w0 g1 g2 g3 g4 tp w6 w7 w8 w9 w10 w11 w12 w13 w14 g15 w16 g17 w18 w19 g20 w21 g22 g23 g24 w25 w26 w27 g28 g29 w30 g31 g32 g33 fa) := by
  refine Ct.of (cc := cX8_led) (maxL := 5) (ret := (some .int)) (by decide) (Nat.le_of_ble_eq_true rfl) ?_
  intro p e s m args below meth c A ls hC hnm V hl
  obtain ⟨hx, hb, hr, hml, hown, hts, hlocks⟩ := id hC
  generalize hH : s.heap = H at V ⊢
  clear hH
  have hl : lv_has ls 5 [(0, .ref o), (1, .int (nI i)), (2, .int (nI k))] := hl
  generalize hlo : ([] : List Loc) = locs at V ⊢
  clear hlo
  have ms0 := ms_rf h_a
  have hn10 := h_a.1
  refine lv_iload_n hx hb dX8_led_0 rfl (lv_at hl 1 rfl) ?_
  refine lv_istore_n (lv' := [(3, .int (nI i)), (0, .ref o), (1, .int (nI i)), (2, .int (nI k))]) hx hb dX8_led_1 rfl hl (by decide) rfl (fun ls hl => ?_)
  refine lv_iconst (v := (nI 0)) hx hb dX8_led_2 (by decide +kernel) ?_
  refine lv_istore (lv' := [(4, .int (nI 0)), (3, .int (nI i)), (0, .ref o), (1, .int (nI i)), (2, .int (nI k))]) hx hb dX8_led_3 hl (by decide) rfl (fun ls hl => ?_)
  have L_1 : ∀ (fu : Nat) (k5 : Nat) (at_ : Nat), k5 ≤ k → (at_ = ledF fa i k5 ∧ at_ < n) → k - k5 < fu → ∀ (H : Heap) (locs : List Loc) (ls : Array Slot), gW D T A s [(o, .inr (8, [.int w0, .ref g1, .ref g2, .ref g3, .ref g4, .int (nI tp), .int w6, .int w7, .int w8, .int w9, .int w10, .int w11, .int w12, .int w13, .int w14, .ref g15, .int w16, .ref g17, .int w18, .int w19, .ref g20, .int w21, .ref g22, .ref g23, .ref g24, .int w25, .int w26, .int w27, .ref g28, .ref g29, .int w30, .ref g31, .ref g32, .ref g33])), (g1, .inl (T 0, 282, .inl fa))] H locs → lv_has ls 5 [(4, .int (nI k5)), (3, .int (nI at_)), (0, .ref o), (1, .int (nI i)), (2, .int (nI k))] → W p l e (rmD 0 0 0) s m args below meth c H locs 0 0 (MQ below (gQ D A (q_m_led T n o i k w0 g1 g2 g3 g4 tp w6 w7 w8 w9 w10 w11 w12 w13 w14 g15 w16 g17 w18 w19 g20 w21 g22 g23 g24 w25 w26 w27 g28 g29 w30 g31 g32 g33 fa)) args s 0 0 A) (F0 m 5 ls []) := by
    intro fu_5
    induction fu_5 with
    | zero => intro k5 at_ hk5 hat hmu; exact absurd hmu (Nat.not_lt_zero _)
    | succ fu_5 ih_5 =>
      intro k5 at_ hk5 hat hmu_5 H locs ls V hl
      refine lv_iload hx hb dX8_led_5 (lv_at hl 0 rfl) ?_
      refine lv_iload_n hx hb dX8_led_7 rfl (lv_at hl 4 rfl) ?_
      refine lv_icmp_ge (tgt := 27) hx hb dX8_led_8 (by decide) (fun c_2 => ?_) (fun c_2 => ?_)
      · skip
        have c_2 := b_le (by omega) (by omega) c_2
        refine lv_iload_n hx hb dX8_led_27 rfl (lv_at hl 1 rfl) ?_
        exact g_iret (Qr := (q_m_led T n o i k w0 g1 g2 g3 g4 tp w6 w7 w8 w9 w10 w11 w12 w13 w14 g15 w16 g17 w18 w19 g20 w21 g22 g23 g24 w25 w26 w27 g28 g29 w30 g31 g32 g33 fa)) hC V ⟨(Nat.le_of_ble_eq_true rfl), (Nat.le_of_ble_eq_true rfl)⟩ ⟨at_, rfl, rfl, (led_end hat (by omega))⟩ dX8_led_28
      · skip
        have c_2 := b_nle (by omega) (by omega) c_2
        refine lv_aload_n hx hb dX8_led_11 rfl (lv_at hl 2 rfl) ?_
        refine g_get hC V (ci := 8) uwX8 0 rfl rfl 1 (by decide) w_913 rfl rfl dX8_led_12 ?_
        refine lv_bipush (v := (nI 84)) hx hb dX8_led_15 (by decide +kernel) ?_
        refine lv_iload_n hx hb dX8_led_17 rfl (lv_at hl 1 rfl) ?_
        refine lv_iadd hx hb dX8_led_18 ?_
        refine g_vi (y := (nI (84 + at_))) (nI_add _ _) ?_
        obtain ⟨j_3, hj_3, ej_3⟩ := bd_ex (mi_to h_a (i := at_) (by omega))
        refine g_iald hC V 1 rfl (vp_in_nI (by omega) (by omega)) (v := (nI j_3)) (by rw [nI_clamp (by omega)]; exact ej_3) dX8_led_19 ?_
        refine lv_istore_n (lv' := [(3, .int (nI j_3)), (4, .int (nI k5)), (0, .ref o), (1, .int (nI i)), (2, .int (nI k))]) hx hb dX8_led_20 rfl hl (by decide) rfl (fun ls hl => ?_)
        refine lv_iinc (v := (nI (k5 + 1))) (lv' := [(4, .int (nI (k5 + 1))), (3, .int (nI j_3)), (0, .ref o), (1, .int (nI i)), (2, .int (nI k))]) hx hb dX8_led_21 hl (k := 1) rfl (nI_1 _) (by decide) rfl (fun ls hl => ?_)
        refine lv_goto (tgt := 5) hx hb dX8_led_24 (by decide) ?_
        exact ih_5 (k5 + 1) j_3 (by omega) (led_nx hat (by assumption) (by omega) (by omega)) (by omega) _ _ _ V (lv_sub hl [0, 1, 2, 3, 4] rfl)
  exact L_1 _ 0 i (by omega) ⟨rfl, h_i⟩ (Nat.lt_succ_self _) _ _ _ V (lv_sub hl [0, 1, 2, 3, 4] rfl)

theorem led_go {f : Nat → Int32} {i m k r F : Nat} (hF : F = ledF f i 10) (hm : ledF f (ledF f i 10) m = ledF f i 10) (hr : r = ledF f F k) (hne : r ≠ F) (hk : k ≤ m) : k + 1 ≤ m := by
  have : k ≠ m := by
    rintro rfl
    apply hne
    rw [hr, hF, hm]
  omega
