def q_m_livesS_f (T : Nat → ClassId) (n : Nat) (o : Nat) (cn : Nat) (lz : Int32) (jf : Nat) (bl : Int32) (w0 : Int32) (g1 : Nat) (g2 : Nat) (g3 : Nat) (g4 : Nat) (tp : Nat) (w6 : Int32) (w7 : Int32) (w8 : Int32) (w9 : Int32) (w10 : Int32) (w11 : Int32) (w12 : Int32) (w13 : Int32) (w14 : Int32) (g15 : Nat) (w16 : Int32) (g17 : Nat) (w18 : Int32) (w19 : Int32) (g20 : Nat) (w21 : Int32) (g22 : Nat) (g23 : Nat) (g24 : Nat) (w25 : Int32) (w26 : Int32) (w27 : Int32) (g28 : Nat) (g29 : Nat) (w30 : Int32) (g31 : Nat) (g32 : Nat) (g33 : Nat) (fa : Nat → Int32) (fh : Nat → Int32) : Option Value → va_W → Prop := fun rr ww => (∃ (z : Int32) (bm : Int32) (ga : Nat → Int32) (gh : Nat → Int32), rr = some (.int z) ∧ ww = [(o, .inr (8, [.int w0, .ref g1, .ref g2, .ref g3, .ref g4, .int (nI tp), .int w6, .int w7, .int w8, .int w9, .int w10, .int w11, .int w12, .int w13, .int w14, .ref g15, .int bm, .ref g17, .int w18, .int w19, .ref g20, .int w21, .ref g22, .ref g23, .ref g24, .int w25, .int w26, .int w27, .ref g28, .ref g29, .int w30, .ref g31, .ref g32, .ref g33])), (g1, .inl (T 0, 282, .inl ga)), (g15, .inl (T 0, 10, .inl gh))] ∧ MS n fa ga ∧ ga = csI n fa lz jf bl cn)
set_option maxHeartbeats 4000000 in
set_option maxRecDepth 100000 in
theorem m_livesS_f (l : Launch) (D : va_G) (T : Nat → ClassId) (n : Nat) (o : Nat) (cn : Nat) (lz : Int32) (jf : Nat) (bl : Int32) (w0 : Int32) (g1 : Nat) (g2 : Nat) (g3 : Nat) (g4 : Nat) (tp : Nat) (w6 : Int32) (w7 : Int32) (w8 : Int32) (w9 : Int32) (w10 : Int32) (w11 : Int32) (w12 : Int32) (w13 : Int32) (w14 : Int32) (g15 : Nat) (w16 : Int32) (g17 : Nat) (w18 : Int32) (w19 : Int32) (g20 : Nat) (w21 : Int32) (g22 : Nat) (g23 : Nat) (g24 : Nat) (w25 : Int32) (w26 : Int32) (w27 : Int32) (g28 : Nat) (g29 : Nat) (w30 : Int32) (g31 : Nat) (g32 : Nat) (g33 : Nat) (fa : Nat → Int32) (fh : Nat → Int32) (h_a : MI n fa) (h_c : cn ≤ 1000) (h_jf : jf < n) : Ct l yX8_lives cX8_lives 11 (some .int) 3 0 0 D T [.ref o, .int (nI cn), .int lz, .int (nI jf), .int bl] [(o, .inr (8, [.int w0, .ref g1, .ref g2, .ref g3, .ref g4, .int (nI tp), .int w6, .int w7, .int w8, .int w9, .int w10, .int w11, .int w12, .int w13, .int w14, .ref g15, .int w16, .ref g17, .int w18, .int w19, .ref g20, .int w21, .ref g22, .ref g23, .ref g24, .int w25, .int w26, .int w27, .ref g28, .ref g29, .int w30, .ref g31, .ref g32, .ref g33])), (g1, .inl (T 0, 282, .inl fa)), (g15, .inl (T 0, 10, .inl fh))] (q_m_livesS_f T n o cn lz jf bl w0 g1 g2 g3 g4 tp w6 w7 w8 w9 w10 w11 w12 w13 w14 g15 w16 g17 w18 w19 g20 w21 g22 g23 g24 w25 w26 w27 g28 g29 w30 g31 g32 g33 fa fh) := by
  refine Ct.of (cc := cX8_lives) (maxL := 11) (ret := (some .int)) (by decide) (Nat.le_of_ble_eq_true rfl) ?_
  intro p e s m args below meth c A ls hC hnm V hl
  obtain ⟨hx, hb, hr, hml, hown, hts, hlocks⟩ := id hC
  generalize hH : s.heap = H at V ⊢
  clear hH
  have hl : lv_has ls 11 [(0, .ref o), (1, .int (nI cn)), (2, .int lz), (3, .int (nI jf)), (4, .int bl)] := hl
  generalize hlo : ([] : List Loc) = locs at V ⊢
  clear hlo
  have ms0 := ms_rf h_a
  have hn10 := h_a.1
  refine lv_iconst (v := (nI 0)) hx hb dX8_lives_0 (by decide +kernel) ?_
  refine lv_istore (lv' := [(5, .int (nI 0)), (0, .ref o), (1, .int (nI cn)), (2, .int lz), (3, .int (nI jf)), (4, .int bl)]) hx hb dX8_lives_1 hl (by decide) rfl (fun ls hl => ?_)
  refine lv_iconst (v := (nI 0)) hx hb dX8_lives_3 (by decide +kernel) ?_
  refine lv_istore (lv' := [(6, .int (nI 0)), (5, .int (nI 0)), (0, .ref o), (1, .int (nI cn)), (2, .int lz), (3, .int (nI jf)), (4, .int bl)]) hx hb dX8_lives_4 hl (by decide) rfl (fun ls hl => ?_)
  have L_1 : ∀ (fu : Nat) (k6 : Nat) (x6_5 : Int32) (bv : Int32) (th : Nat → Int32) (f6 : Nat → Int32), k6 ≤ cn → MS n fa f6 → f6 = csI n fa lz jf bl k6 → cn - k6 < fu → ∀ (H : Heap) (locs : List Loc) (ls : Array Slot), gW D T A s [(o, .inr (8, [.int w0, .ref g1, .ref g2, .ref g3, .ref g4, .int (nI tp), .int w6, .int w7, .int w8, .int w9, .int w10, .int w11, .int w12, .int w13, .int w14, .ref g15, .int bv, .ref g17, .int w18, .int w19, .ref g20, .int w21, .ref g22, .ref g23, .ref g24, .int w25, .int w26, .int w27, .ref g28, .ref g29, .int w30, .ref g31, .ref g32, .ref g33])), (g1, .inl (T 0, 282, .inl f6)), (g15, .inl (T 0, 10, .inl th))] H locs → lv_has ls 11 [(6, .int (nI k6)), (5, .int x6_5), (0, .ref o), (1, .int (nI cn)), (2, .int lz), (3, .int (nI jf)), (4, .int bl)] → W p l e (rmD 3 0 0) s m args below meth c H locs 0 0 (MQ below (gQ D A (q_m_livesS_f T n o cn lz jf bl w0 g1 g2 g3 g4 tp w6 w7 w8 w9 w10 w11 w12 w13 w14 g15 w16 g17 w18 w19 g20 w21 g22 g23 g24 w25 w26 w27 g28 g29 w30 g31 g32 g33 fa fh)) args s 0 0 A) (F0 m 6 ls []) := by
    intro fu_6
    induction fu_6 with
    | zero => intro k6 x6_5 bv th f6 hk6 hf6 hI hmu; exact absurd hmu (Nat.not_lt_zero _)
    | succ fu_6 ih_6 =>
      intro k6 x6_5 bv th f6 hk6 hf6 hI hmu_6 H locs ls V hl
      refine lv_iload hx hb dX8_lives_6 (lv_at hl 0 rfl) ?_
      refine lv_iload_n hx hb dX8_lives_8 rfl (lv_at hl 3 rfl) ?_
      refine lv_icmp_ge (tgt := 198) hx hb dX8_lives_9 (by decide) (fun c_2 => ?_) (fun c_2 => ?_)
      · skip
        have c_2 := b_le (by omega) (by omega) c_2
        refine lv_iload hx hb dX8_lives_198 (lv_at hl 1 rfl) ?_
        exact g_iret (Qr := (q_m_livesS_f T n o cn lz jf bl w0 g1 g2 g3 g4 tp w6 w7 w8 w9 w10 w11 w12 w13 w14 g15 w16 g17 w18 w19 g20 w21 g22 g23 g24 w25 w26 w27 g28 g29 w30 g31 g32 g33 fa fh)) hC V ⟨(Nat.le_of_ble_eq_true rfl), (Nat.le_of_ble_eq_true rfl)⟩ ⟨x6_5, bv, f6, th, rfl, rfl, (by assumption), (by rw [hI]; congr 1; omega)⟩ dX8_lives_200
      · skip
        have c_2 := b_nle (by omega) (by omega) c_2
        refine lv_iconst (v := (nI 0)) hx hb dX8_lives_12 (by decide +kernel) ?_
        refine lv_istore (lv' := [(7, .int (nI 0)), (6, .int (nI k6)), (5, .int x6_5), (0, .ref o), (1, .int (nI cn)), (2, .int lz), (3, .int (nI jf)), (4, .int bl)]) hx hb dX8_lives_13 hl (by decide) rfl (fun ls hl => ?_)
        refine lv_iconst (v := (nI 0)) hx hb dX8_lives_15 (by decide +kernel) ?_
        refine lv_istore (lv' := [(8, .int (nI 0)), (7, .int (nI 0)), (6, .int (nI k6)), (5, .int x6_5), (0, .ref o), (1, .int (nI cn)), (2, .int lz), (3, .int (nI jf)), (4, .int bl)]) hx hb dX8_lives_16 hl (by decide) rfl (fun ls hl => ?_)
        refine lv_iconst (v := (nI 0)) hx hb dX8_lives_18 (by decide +kernel) ?_
        refine lv_istore (lv' := [(9, .int (nI 0)), (8, .int (nI 0)), (7, .int (nI 0)), (6, .int (nI k6)), (5, .int x6_5), (0, .ref o), (1, .int (nI cn)), (2, .int lz), (3, .int (nI jf)), (4, .int bl)]) hx hb dX8_lives_19 hl (by decide) rfl (fun ls hl => ?_)
        have L_3 : ∀ (fu : Nat) (k21 : Nat) (pv : Int32) (sv : Int32), k21 ≤ n → sv = cuSk f6 lz k21 → pv = cuPl f6 lz k21 → n - k21 < fu → ∀ (H : Heap) (locs : List Loc) (ls : Array Slot), gW D T A s [(o, .inr (8, [.int w0, .ref g1, .ref g2, .ref g3, .ref g4, .int (nI tp), .int w6, .int w7, .int w8, .int w9, .int w10, .int w11, .int w12, .int w13, .int w14, .ref g15, .int bv, .ref g17, .int w18, .int w19, .ref g20, .int w21, .ref g22, .ref g23, .ref g24, .int w25, .int w26, .int w27, .ref g28, .ref g29, .int w30, .ref g31, .ref g32, .ref g33])), (g1, .inl (T 0, 282, .inl f6)), (g15, .inl (T 0, 10, .inl th))] H locs → lv_has ls 11 [(9, .int (nI k21)), (8, .int sv), (7, .int pv), (6, .int (nI k6)), (5, .int x6_5), (0, .ref o), (1, .int (nI cn)), (2, .int lz), (3, .int (nI jf)), (4, .int bl)] → W p l e (rmD 3 0 0) s m args below meth c H locs 0 0 (MQ below (gQ D A (q_m_livesS_f T n o cn lz jf bl w0 g1 g2 g3 g4 tp w6 w7 w8 w9 w10 w11 w12 w13 w14 g15 w16 g17 w18 w19 g20 w21 g22 g23 g24 w25 w26 w27 g28 g29 w30 g31 g32 g33 fa fh)) args s 0 0 A) (F0 m 21 ls []) := by
          intro fu_21
          induction fu_21 with
          | zero => intro k21 pv sv hk21 hsv hpv hmu; exact absurd hmu (Nat.not_lt_zero _)
          | succ fu_21 ih_21 =>
            intro k21 pv sv hk21 hsv hpv hmu_21 H locs ls V hl
            refine lv_iload hx hb dX8_lives_21 (lv_at hl 0 rfl) ?_
            refine lv_aload_n hx hb dX8_lives_23 rfl (lv_at hl 5 rfl) ?_
            refine g_get hC V (ci := 8) uwX8 0 rfl rfl 1 (by decide) w_913 rfl rfl dX8_lives_24 ?_
            refine lv_iconst (v := (nI 0)) hx hb dX8_lives_27 (by decide +kernel) ?_
            refine g_iald hC V 1 rfl (vp_in_nI (by decide) (by decide)) (v := (nI n)) (by rw [nI_clamp (by decide)]; first | rfl | exact h_a.2.1 | exact hf6.1.2.1) dX8_lives_28 ?_
            refine lv_icmp_ge (tgt := 131) hx hb dX8_lives_29 (by decide) (fun c_4 => ?_) (fun c_4 => ?_)
            · skip
              have c_4 := b_le (by omega) (by omega) c_4
              have hsn : sv = cuSk f6 lz n := by rw [hsv]; congr 1; omega
              have hpn : pv = cuPl f6 lz n := by rw [hpv]; congr 1; omega
              refine lv_iload_n hx hb dX8_lives_131 rfl (lv_at hl 8 rfl) ?_
              refine lv_iconst (v := (-1)) hx hb dX8_lives_132 (by decide +kernel) ?_
              refine lv_icmp_eq (tgt := 164) hx hb dX8_lives_133 (by decide) (fun c_5 => ?_) (fun c_5 => ?_)
              · skip
                exact (m1_ne jf (by omega) (by assumption) : False).elim
              · skip
                refine lv_aload_n hx hb dX8_lives_136 rfl (lv_at hl 5 rfl) ?_
                refine g_get hC V (ci := 8) uwX8 0 rfl rfl 1 (by decide) w_913 rfl rfl dX8_lives_137 ?_
                refine lv_bipush (v := (nI 24)) hx hb dX8_lives_140 (by decide +kernel) ?_
                refine lv_iload_n hx hb dX8_lives_142 rfl (lv_at hl 8 rfl) ?_
                refine lv_iadd hx hb dX8_lives_143 ?_
                refine g_vi (y := (nI (24 + jf))) (nI_add _ _) ?_
                obtain ⟨j_6, hj_6, ej_6⟩ := bd_ex (mi_heat hf6.1 (i := jf) (by omega))
                refine g_iald hC V 1 rfl (vp_in_nI (by omega) (by omega)) (v := (nI j_6)) (by rw [nI_clamp (by omega)]; exact ej_6) dX8_lives_144 ?_
                refine lv_iload hx hb dX8_lives_145 (lv_at hl 9 rfl) ?_
                refine lv_iadd hx hb dX8_lives_147 ?_
                refine lv_aload_n hx hb dX8_lives_148 rfl (lv_at hl 5 rfl) ?_
                refine g_get hC V (ci := 8) uwX8 0 rfl rfl 1 (by decide) w_913 rfl rfl dX8_lives_149 ?_
                refine lv_bipush (v := (nI 44)) hx hb dX8_lives_152 (by decide +kernel) ?_
                refine lv_iload_n hx hb dX8_lives_154 rfl (lv_at hl 8 rfl) ?_
                refine lv_iadd hx hb dX8_lives_155 ?_
                refine g_vi (y := (nI (44 + jf))) (nI_add _ _) ?_
                refine g_iald hC V 1 rfl (vp_in_nI (by omega) (by omega)) (v := (f6 (44 + jf))) (congrArg _ (nI_clamp (by omega))) dX8_lives_156 ?_
                refine lv_icmp_gt (tgt := 164) hx hb dX8_lives_157 (by decide) (fun c_7 => ?_) (fun c_7 => ?_)
                · skip
                  have hmr : mrS (csI n fa lz jf bl k6) jf bl = nI 0 := by
                    rw [← hI]
                    refine mr_n ?_
                    rw [ej_6]; exact c_7
                  refine lv_iconst (v := (nI 0)) hx hb dX8_lives_164 (by decide +kernel) ?_
                  refine lv_istore (lv' := [(9, .int (nI 0)), (8, .int sv), (7, .int pv), (6, .int (nI k6)), (5, .int x6_5), (0, .ref o), (1, .int (nI cn)), (2, .int lz), (3, .int (nI jf)), (4, .int bl)]) hx hb dX8_lives_165 hl (by decide) rfl (fun ls hl => ?_)
                  refine lv_iload hx hb dX8_lives_167 (lv_at hl 4 rfl) ?_
                  refine lv_aload_n hx hb dX8_lives_169 rfl (lv_at hl 5 rfl) ?_
                  refine lv_iload hx hb dX8_lives_170 (lv_at hl 2 rfl) ?_
                  refine lv_iload hx hb dX8_lives_172 (lv_at hl 1 rfl) ?_
                  refine lv_iload_n hx hb dX8_lives_174 rfl (lv_at hl 8 rfl) ?_
                  refine lv_iload hx hb dX8_lives_175 (lv_at hl 0 rfl) ?_
                  refine lv_if_eq (tgt := 185) hx hb dX8_lives_177 (by decide) (fun _ => ?_) (fun c => absurd (show (nI 0) = 0 by decide +kernel) c)
                  refine lv_iconst (v := (nI 0)) hx hb dX8_lives_185 (by decide +kernel) ?_
                  refine g_callV (wr := []) (nA := 4) hC V hl.1 (m_goes_f l D T n o pv sv (nI jf) (nI 0) w0 g1 g2 g3 g4 tp w6 w7 w8 w9 w10 w11 w12 w13 w14 g15 bv g17 w18 w19 g20 w21 g22 g23 g24 w25 w26 w27 g28 g29 w30 g31 g32 g33 f6 th hf6.1) w_1122 w_1124 w_s50 w_9 w_1125 (by decide +kernel) rfl ⟨(Nat.le_of_ble_eq_true rfl), (Nat.le_of_ble_eq_true rfl)⟩ 0 (ci := 8) rfl rfl [0, 1, 2] [] rfl rfl rfl rfl (by decide) (Nat.le_of_ble_eq_true rfl) dX8_lives_186 ⟨(Nat.le_of_ble_eq_true rfl), (Nat.le_of_ble_eq_true rfl)⟩ rfl (fun r w1 H locs hQ V => ?_)
                  obtain ⟨z_8, bm_9, ga_10, gh_11, rfl, rfl, f_12, f_13, f_14, f_15⟩ := hQ
                  have V : gW D T A s [(o, .inr (8, [.int w0, .ref g1, .ref g2, .ref g3, .ref g4, .int (nI tp), .int w6, .int w7, .int w8, .int w9, .int w10, .int w11, .int w12, .int w13, .int w14, .ref g15, .int bm_9, .ref g17, .int w18, .int w19, .ref g20, .int w21, .ref g22, .ref g23, .ref g24, .int w25, .int w26, .int w27, .ref g28, .ref g29, .int w30, .ref g31, .ref g32, .ref g33])), (g1, .inl (T 0, 282, .inl ga_10)), (g15, .inl (T 0, 10, .inl gh_11))] H locs := V
                  show W p l e _ s m args below meth c H locs _ _ _ (F0 m 189 ls [.int z_8, .int x6_5])
                  have hga_10 : MS n fa ga_10 := ms_tr (by assumption) f_12
                  refine lv_iadd hx hb dX8_lives_189 ?_
                  refine lv_istore (lv' := [(5, .int (x6_5 + z_8)), (9, .int (nI 0)), (8, .int sv), (7, .int pv), (6, .int (nI k6)), (0, .ref o), (1, .int (nI cn)), (2, .int lz), (3, .int (nI jf)), (4, .int bl)]) hx hb dX8_lives_190 hl (by decide) rfl (fun ls hl => ?_)
                  refine lv_iinc (v := (nI (k6 + 1))) (lv' := [(6, .int (nI (k6 + 1))), (5, .int (x6_5 + z_8)), (9, .int (nI 0)), (8, .int sv), (7, .int pv), (0, .ref o), (1, .int (nI cn)), (2, .int lz), (3, .int (nI jf)), (4, .int bl)]) hx hb dX8_lives_192 hl (k := 4) rfl (nI_1 _) (by decide) rfl (fun ls hl => ?_)
                  refine lv_goto (tgt := 6) hx hb dX8_lives_195 (by decide) ?_
                  exact ih_6 (k6 + 1) (x6_5 + z_8) bm_9 gh_11 ga_10 (by omega) (by assumption) (by rw [f_14, hsn, hpn, hI]; show _ = goF n _ _ _ (nI jf) (mrS (csI n fa lz jf bl k6) jf bl); rw [hmr]) (by omega) _ _ _ V (lv_sub hl [0, 1, 5, 6, 7, 8, 9] rfl)
                · skip
                  have hmr : mrS (csI n fa lz jf bl k6) jf bl = bl := by
                    rw [← hI]
                    refine mr_y ?_
                    rw [ej_6]; exact c_7
                  refine lv_iconst (v := (nI 1)) hx hb dX8_lives_160 (by decide +kernel) ?_
                  refine lv_goto (tgt := 165) hx hb dX8_lives_161 (by decide) ?_
                  refine lv_istore (lv' := [(9, .int (nI 1)), (8, .int sv), (7, .int pv), (6, .int (nI k6)), (5, .int x6_5), (0, .ref o), (1, .int (nI cn)), (2, .int lz), (3, .int (nI jf)), (4, .int bl)]) hx hb dX8_lives_165 hl (by decide) rfl (fun ls hl => ?_)
                  refine lv_iload hx hb dX8_lives_167 (lv_at hl 4 rfl) ?_
                  refine lv_aload_n hx hb dX8_lives_169 rfl (lv_at hl 5 rfl) ?_
                  refine lv_iload hx hb dX8_lives_170 (lv_at hl 2 rfl) ?_
                  refine lv_iload hx hb dX8_lives_172 (lv_at hl 1 rfl) ?_
                  refine lv_iload_n hx hb dX8_lives_174 rfl (lv_at hl 8 rfl) ?_
                  refine lv_iload hx hb dX8_lives_175 (lv_at hl 0 rfl) ?_
                  refine lv_if_eq (tgt := 185) hx hb dX8_lives_177 (by decide) (fun c => absurd (show (nI 1) = 0 from c) (by decide +kernel)) (fun _ => ?_)
                  refine lv_iload hx hb dX8_lives_180 (lv_at hl 9 rfl) ?_
                  refine lv_goto (tgt := 186) hx hb dX8_lives_182 (by decide) ?_
                  refine g_callV (wr := []) (nA := 4) hC V hl.1 (m_goes_f l D T n o pv sv (nI jf) bl w0 g1 g2 g3 g4 tp w6 w7 w8 w9 w10 w11 w12 w13 w14 g15 bv g17 w18 w19 g20 w21 g22 g23 g24 w25 w26 w27 g28 g29 w30 g31 g32 g33 f6 th hf6.1) w_1122 w_1124 w_s50 w_9 w_1125 (by decide +kernel) rfl ⟨(Nat.le_of_ble_eq_true rfl), (Nat.le_of_ble_eq_true rfl)⟩ 0 (ci := 8) rfl rfl [0, 1, 2] [] rfl rfl rfl rfl (by decide) (Nat.le_of_ble_eq_true rfl) dX8_lives_186 ⟨(Nat.le_of_ble_eq_true rfl), (Nat.le_of_ble_eq_true rfl)⟩ rfl (fun r w1 H locs hQ V => ?_)
                  obtain ⟨z_16, bm_17, ga_18, gh_19, rfl, rfl, f_20, f_21, f_22, f_23⟩ := hQ
                  have V : gW D T A s [(o, .inr (8, [.int w0, .ref g1, .ref g2, .ref g3, .ref g4, .int (nI tp), .int w6, .int w7, .int w8, .int w9, .int w10, .int w11, .int w12, .int w13, .int w14, .ref g15, .int bm_17, .ref g17, .int w18, .int w19, .ref g20, .int w21, .ref g22, .ref g23, .ref g24, .int w25, .int w26, .int w27, .ref g28, .ref g29, .int w30, .ref g31, .ref g32, .ref g33])), (g1, .inl (T 0, 282, .inl ga_18)), (g15, .inl (T 0, 10, .inl gh_19))] H locs := V
                  show W p l e _ s m args below meth c H locs _ _ _ (F0 m 189 ls [.int z_16, .int x6_5])
                  have hga_18 : MS n fa ga_18 := ms_tr (by assumption) f_20
                  refine lv_iadd hx hb dX8_lives_189 ?_
                  refine lv_istore (lv' := [(5, .int (x6_5 + z_16)), (9, .int (nI 1)), (8, .int sv), (7, .int pv), (6, .int (nI k6)), (0, .ref o), (1, .int (nI cn)), (2, .int lz), (3, .int (nI jf)), (4, .int bl)]) hx hb dX8_lives_190 hl (by decide) rfl (fun ls hl => ?_)
                  refine lv_iinc (v := (nI (k6 + 1))) (lv' := [(6, .int (nI (k6 + 1))), (5, .int (x6_5 + z_16)), (9, .int (nI 1)), (8, .int sv), (7, .int pv), (0, .ref o), (1, .int (nI cn)), (2, .int lz), (3, .int (nI jf)), (4, .int bl)]) hx hb dX8_lives_192 hl (k := 4) rfl (nI_1 _) (by decide) rfl (fun ls hl => ?_)
                  refine lv_goto (tgt := 6) hx hb dX8_lives_195 (by decide) ?_
                  exact ih_6 (k6 + 1) (x6_5 + z_16) bm_17 gh_19 ga_18 (by omega) (by assumption) (by rw [f_22, hsn, hpn, hI]; show _ = goF n _ _ _ (nI jf) (mrS (csI n fa lz jf bl k6) jf bl); rw [hmr]) (by omega) _ _ _ V (lv_sub hl [0, 1, 5, 6, 7, 8, 9] rfl)
            · skip
              have c_4 := b_nle (by omega) (by omega) c_4
              refine lv_iload hx hb dX8_lives_32 (lv_at hl 0 rfl) ?_
              refine lv_iload_n hx hb dX8_lives_34 rfl (lv_at hl 7 rfl) ?_
              refine lv_icmp_ne (tgt := 41) hx hb dX8_lives_35 (by decide) (fun c_24 => ?_) (fun c_24 => ?_)
              · skip
                have hlz := c_24
                refine lv_aload_n hx hb dX8_lives_41 rfl (lv_at hl 5 rfl) ?_
                refine g_get hC V (ci := 8) uwX8 0 rfl rfl 1 (by decide) w_913 rfl rfl dX8_lives_42 ?_
                refine lv_bipush (v := (nI 84)) hx hb dX8_lives_45 (by decide +kernel) ?_
                refine lv_iload hx hb dX8_lives_47 (lv_at hl 0 rfl) ?_
                refine lv_iadd hx hb dX8_lives_49 ?_
                refine g_vi (y := (nI (84 + k21))) (nI_add _ _) ?_
                obtain ⟨j_25, hj_25, ej_25⟩ := bd_ex (mi_to hf6.1 (i := k21) (by omega))
                refine g_iald hC V 1 rfl (vp_in_nI (by omega) (by omega)) (v := (nI j_25)) (by rw [nI_clamp (by omega)]; exact ej_25) dX8_lives_50 ?_
                refine lv_istore (lv' := [(10, .int (nI j_25)), (9, .int (nI k21)), (8, .int sv), (7, .int pv), (6, .int (nI k6)), (5, .int x6_5), (0, .ref o), (1, .int (nI cn)), (2, .int lz), (3, .int (nI jf)), (4, .int bl)]) hx hb dX8_lives_51 hl (by decide) rfl (fun ls hl => ?_)
                refine lv_aload_n hx hb dX8_lives_53 rfl (lv_at hl 6 rfl) ?_
                refine lv_iload hx hb dX8_lives_54 (lv_at hl 1 rfl) ?_
                refine g_callVU (nA := 1) hC V hl.1 (m_isWarm_f l D T o k21 w0 g1 g2 g3 g4 tp w6 w7 w8 w9 w10 w11 w12 w13 w14 g15 bv g17 w18 w19 g20 w21 g22 g23 g24 w25 w26 w27 g28 g29 w30 g31 g32 g33 f6 (by first | assumption | omega)) w_1136 w_1138 w_s52 w_9 w_1139 (by decide +kernel) rfl ⟨(Nat.le_of_ble_eq_true rfl), (Nat.le_of_ble_eq_true rfl)⟩ 0 (ci := 8) rfl rfl [0, 1] rfl rfl (Nat.le_of_ble_eq_true rfl) dX8_lives_56 ⟨(Nat.le_of_ble_eq_true rfl), (Nat.le_of_ble_eq_true rfl)⟩ rfl (fun r w1 H locs hQ V => ?_)
                rcases hQ with ⟨rfl, rfl, f_26⟩ | ⟨rfl, rfl, f_27⟩
                · have V : gW D T A s [(o, .inr (8, [.int w0, .ref g1, .ref g2, .ref g3, .ref g4, .int (nI tp), .int w6, .int w7, .int w8, .int w9, .int w10, .int w11, .int w12, .int w13, .int w14, .ref g15, .int bv, .ref g17, .int w18, .int w19, .ref g20, .int w21, .ref g22, .ref g23, .ref g24, .int w25, .int w26, .int w27, .ref g28, .ref g29, .int w30, .ref g31, .ref g32, .ref g33])), (g1, .inl (T 0, 282, .inl f6)), (g15, .inl (T 0, 10, .inl th))] H locs := V _ [0, 0] rfl rfl rfl (by decide +kernel) rfl
                  show W p l e _ s m args below meth c H locs _ _ _ (F0 m 59 ls [.int (nI 1)])
                  refine lv_if_eq (tgt := 83) hx hb dX8_lives_59 (by decide) (fun c => absurd (show (nI 1) = 0 from c) (by decide +kernel)) (fun _ => ?_)
                  refine lv_aload_n hx hb dX8_lives_62 rfl (lv_at hl 6 rfl) ?_
                  refine lv_iload hx hb dX8_lives_63 (lv_at hl 1 rfl) ?_
                  refine g_callVU (nA := 1) hC V hl.1 (m_isDone l D T o k21 w0 g1 g2 g3 g4 tp w6 w7 w8 w9 w10 w11 w12 w13 w14 g15 bv g17 w18 w19 g20 w21 g22 g23 g24 w25 w26 w27 g28 g29 w30 g31 g32 g33 f6 (by first | assumption | omega)) w_1088 w_1090 w_s47 w_9 w_1091 (by decide +kernel) rfl ⟨(Nat.le_of_ble_eq_true rfl), (Nat.le_of_ble_eq_true rfl)⟩ 0 (ci := 8) rfl rfl [0, 1] rfl rfl (Nat.le_of_ble_eq_true rfl) dX8_lives_65 ⟨(Nat.le_of_ble_eq_true rfl), (Nat.le_of_ble_eq_true rfl)⟩ rfl (fun r w1 H locs hQ V => ?_)
                  rcases hQ with ⟨rfl, rfl, f_28⟩ | ⟨rfl, rfl, f_29⟩
                  · have V : gW D T A s [(o, .inr (8, [.int w0, .ref g1, .ref g2, .ref g3, .ref g4, .int (nI tp), .int w6, .int w7, .int w8, .int w9, .int w10, .int w11, .int w12, .int w13, .int w14, .ref g15, .int bv, .ref g17, .int w18, .int w19, .ref g20, .int w21, .ref g22, .ref g23, .ref g24, .int w25, .int w26, .int w27, .ref g28, .ref g29, .int w30, .ref g31, .ref g32, .ref g33])), (g1, .inl (T 0, 282, .inl f6)), (g15, .inl (T 0, 10, .inl th))] H locs := V _ [0, 0] rfl rfl rfl (by decide +kernel) rfl
                    show W p l e _ s m args below meth c H locs _ _ _ (F0 m 68 ls [.int (nI 1)])
                    have hnc : ¬ cuStr f6 k21 := fun q => f_28 q.1
                    refine lv_if_ne (tgt := 83) hx hb dX8_lives_68 (by decide) (fun _ => ?_) (fun c => absurd (show (nI 1) = 0 from c) (by decide +kernel))
                    refine lv_aload_n hx hb dX8_lives_83 rfl (lv_at hl 6 rfl) ?_
                    refine g_get hC V (ci := 8) uwX8 0 rfl rfl 1 (by decide) w_913 rfl rfl dX8_lives_84 ?_
                    refine lv_bipush (v := (nI 24)) hx hb dX8_lives_87 (by decide +kernel) ?_
                    refine lv_iload hx hb dX8_lives_89 (lv_at hl 0 rfl) ?_
                    refine lv_iadd hx hb dX8_lives_91 ?_
                    refine g_vi (y := (nI (24 + j_25))) (nI_add _ _) ?_
                    obtain ⟨j_30, hj_30, ej_30⟩ := bd_ex (mi_heat hf6.1 (i := j_25) (by omega))
                    refine g_iald hC V 1 rfl (vp_in_nI (by omega) (by omega)) (v := (nI j_30)) (by rw [nI_clamp (by omega)]; exact ej_30) dX8_lives_92 ?_
                    refine lv_aload_n hx hb dX8_lives_93 rfl (lv_at hl 6 rfl) ?_
                    refine g_get hC V (ci := 8) uwX8 0 rfl rfl 1 (by decide) w_913 rfl rfl dX8_lives_94 ?_
                    refine lv_iconst (v := (nI 4)) hx hb dX8_lives_97 (by decide +kernel) ?_
                    refine lv_iload hx hb dX8_lives_98 (lv_at hl 1 rfl) ?_
                    refine lv_iadd hx hb dX8_lives_100 ?_
                    refine g_vi (y := (nI (4 + k21))) (nI_add _ _) ?_
                    obtain ⟨j_31, hj_31, ej_31⟩ := bd_ex (mi_blast hf6.1 (i := k21) (by omega))
                    refine g_iald hC V 1 rfl (vp_in_nI (by omega) (by omega)) (v := (nI j_31)) (by rw [nI_clamp (by omega)]; exact ej_31) dX8_lives_101 ?_
                    refine lv_iadd hx hb dX8_lives_102 ?_
                    refine g_vi (y := (nI (j_30 + j_31))) (nI_add _ _) ?_
                    refine lv_aload_n hx hb dX8_lives_103 rfl (lv_at hl 6 rfl) ?_
                    refine g_get hC V (ci := 8) uwX8 0 rfl rfl 1 (by decide) w_913 rfl rfl dX8_lives_104 ?_
                    refine lv_bipush (v := (nI 44)) hx hb dX8_lives_107 (by decide +kernel) ?_
                    refine lv_iload hx hb dX8_lives_109 (lv_at hl 0 rfl) ?_
                    refine lv_iadd hx hb dX8_lives_111 ?_
                    refine g_vi (y := (nI (44 + j_25))) (nI_add _ _) ?_
                    refine g_iald hC V 1 rfl (vp_in_nI (by omega) (by omega)) (v := (f6 (44 + j_25))) (congrArg _ (nI_clamp (by omega))) dX8_lives_112 ?_
                    refine lv_icmp_gt (tgt := 125) hx hb dX8_lives_113 (by decide) (fun c_32 => ?_) (fun c_32 => ?_)
                    · skip
                      refine lv_iinc (v := (nI (k21 + 1))) (lv' := [(9, .int (nI (k21 + 1))), (10, .int (nI j_25)), (8, .int sv), (7, .int pv), (6, .int (nI k6)), (5, .int x6_5), (0, .ref o), (1, .int (nI cn)), (2, .int lz), (3, .int (nI jf)), (4, .int bl)]) hx hb dX8_lives_125 hl (k := 1) rfl (nI_1 _) (by decide) rfl (fun ls hl => ?_)
                      refine lv_goto (tgt := 21) hx hb dX8_lives_128 (by decide) ?_
                      exact ih_21 (k21 + 1) pv sv (by omega) (by rw [hsv]; exact (cP_n hlz hnc (fun q => absurd c_32 ((bea_m ej_25 (by omega) ej_30 ej_31).mpr q))).1) (by rw [hpv]; exact (cP_n hlz hnc (fun q => absurd c_32 ((bea_m ej_25 (by omega) ej_30 ej_31).mpr q))).2) (by omega) _ _ _ V (lv_sub hl [0, 2, 3, 4, 5, 6, 7, 8, 9, 10] rfl)
                    · skip
                      refine lv_iload hx hb dX8_lives_116 (lv_at hl 3 rfl) ?_
                      refine lv_iconst (v := (nI 1)) hx hb dX8_lives_118 (by decide +kernel) ?_
                      refine lv_iload hx hb dX8_lives_119 (lv_at hl 1 rfl) ?_
                      refine lv_ishl hx hb dX8_lives_121 ?_
                      refine lv_ior hx hb dX8_lives_122 ?_
                      refine lv_istore (lv' := [(7, .int (pv ||| ((nI 1) <<< ((nI k21) &&& 31)))), (10, .int (nI j_25)), (9, .int (nI k21)), (8, .int sv), (6, .int (nI k6)), (5, .int x6_5), (0, .ref o), (1, .int (nI cn)), (2, .int lz), (3, .int (nI jf)), (4, .int bl)]) hx hb dX8_lives_123 hl (by decide) rfl (fun ls hl => ?_)
                      refine lv_iinc (v := (nI (k21 + 1))) (lv' := [(9, .int (nI (k21 + 1))), (7, .int (pv ||| ((nI 1) <<< ((nI k21) &&& 31)))), (10, .int (nI j_25)), (8, .int sv), (6, .int (nI k6)), (5, .int x6_5), (0, .ref o), (1, .int (nI cn)), (2, .int lz), (3, .int (nI jf)), (4, .int bl)]) hx hb dX8_lives_125 hl (k := 2) rfl (nI_1 _) (by decide) rfl (fun ls hl => ?_)
                      refine lv_goto (tgt := 21) hx hb dX8_lives_128 (by decide) ?_
                      exact ih_21 (k21 + 1) (pv ||| ((nI 1) <<< ((nI k21) &&& 31))) sv (by omega) (by rw [hsv]; exact (cP_y hlz hnc ((bea_m ej_25 (by omega) ej_30 ej_31).mp c_32)).1) (by rw [hpv]; exact (cP_y hlz hnc ((bea_m ej_25 (by omega) ej_30 ej_31).mp c_32)).2) (by omega) _ _ _ V (lv_sub hl [0, 3, 1, 4, 5, 6, 7, 8, 9, 10] rfl)
                  · have V : gW D T A s [(o, .inr (8, [.int w0, .ref g1, .ref g2, .ref g3, .ref g4, .int (nI tp), .int w6, .int w7, .int w8, .int w9, .int w10, .int w11, .int w12, .int w13, .int w14, .ref g15, .int bv, .ref g17, .int w18, .int w19, .ref g20, .int w21, .ref g22, .ref g23, .ref g24, .int w25, .int w26, .int w27, .ref g28, .ref g29, .int w30, .ref g31, .ref g32, .ref g33])), (g1, .inl (T 0, 282, .inl f6)), (g15, .inl (T 0, 10, .inl th))] H locs := V _ [0, 0] rfl rfl rfl (by decide +kernel) rfl
                    show W p l e _ s m args below meth c H locs _ _ _ (F0 m 68 ls [.int (nI 0)])
                    refine lv_if_ne (tgt := 83) hx hb dX8_lives_68 (by decide) (fun c => absurd (show (nI 0) = 0 by decide +kernel) c) (fun _ => ?_)
                    refine lv_iload hx hb dX8_lives_71 (lv_at hl 2 rfl) ?_
                    refine lv_iconst (v := (nI 1)) hx hb dX8_lives_73 (by decide +kernel) ?_
                    refine lv_iload hx hb dX8_lives_74 (lv_at hl 1 rfl) ?_
                    refine lv_ishl hx hb dX8_lives_76 ?_
                    refine lv_ior hx hb dX8_lives_77 ?_
                    refine lv_istore (lv' := [(8, .int (sv ||| ((nI 1) <<< ((nI k21) &&& 31)))), (10, .int (nI j_25)), (9, .int (nI k21)), (7, .int pv), (6, .int (nI k6)), (5, .int x6_5), (0, .ref o), (1, .int (nI cn)), (2, .int lz), (3, .int (nI jf)), (4, .int bl)]) hx hb dX8_lives_78 hl (by decide) rfl (fun ls hl => ?_)
                    refine lv_goto (tgt := 125) hx hb dX8_lives_80 (by decide) ?_
                    refine lv_iinc (v := (nI (k21 + 1))) (lv' := [(9, .int (nI (k21 + 1))), (8, .int (sv ||| ((nI 1) <<< ((nI k21) &&& 31)))), (10, .int (nI j_25)), (7, .int pv), (6, .int (nI k6)), (5, .int x6_5), (0, .ref o), (1, .int (nI cn)), (2, .int lz), (3, .int (nI jf)), (4, .int bl)]) hx hb dX8_lives_125 hl (k := 2) rfl (nI_1 _) (by decide) rfl (fun ls hl => ?_)
                    refine lv_goto (tgt := 21) hx hb dX8_lives_128 (by decide) ?_
                    exact ih_21 (k21 + 1) pv (sv ||| ((nI 1) <<< ((nI k21) &&& 31))) (by omega) (by rw [hsv]; exact (cS_y hlz ⟨f_29, f_26⟩).1) (by rw [hpv]; exact (cS_y hlz ⟨f_29, f_26⟩).2) (by omega) _ _ _ V (lv_sub hl [0, 1, 3, 4, 5, 6, 7, 8, 9, 10] rfl)
                · have V : gW D T A s [(o, .inr (8, [.int w0, .ref g1, .ref g2, .ref g3, .ref g4, .int (nI tp), .int w6, .int w7, .int w8, .int w9, .int w10, .int w11, .int w12, .int w13, .int w14, .ref g15, .int bv, .ref g17, .int w18, .int w19, .ref g20, .int w21, .ref g22, .ref g23, .ref g24, .int w25, .int w26, .int w27, .ref g28, .ref g29, .int w30, .ref g31, .ref g32, .ref g33])), (g1, .inl (T 0, 282, .inl f6)), (g15, .inl (T 0, 10, .inl th))] H locs := V _ [0, 0] rfl rfl rfl (by decide +kernel) rfl
                  show W p l e _ s m args below meth c H locs _ _ _ (F0 m 59 ls [.int (nI 0)])
                  have hnc : ¬ cuStr f6 k21 := fun q => f_27 q.2
                  refine lv_if_eq (tgt := 83) hx hb dX8_lives_59 (by decide) (fun _ => ?_) (fun c => absurd (show (nI 0) = 0 by decide +kernel) c)
                  refine lv_aload_n hx hb dX8_lives_83 rfl (lv_at hl 6 rfl) ?_
                  refine g_get hC V (ci := 8) uwX8 0 rfl rfl 1 (by decide) w_913 rfl rfl dX8_lives_84 ?_
                  refine lv_bipush (v := (nI 24)) hx hb dX8_lives_87 (by decide +kernel) ?_
                  refine lv_iload hx hb dX8_lives_89 (lv_at hl 0 rfl) ?_
                  refine lv_iadd hx hb dX8_lives_91 ?_
                  refine g_vi (y := (nI (24 + j_25))) (nI_add _ _) ?_
                  obtain ⟨j_33, hj_33, ej_33⟩ := bd_ex (mi_heat hf6.1 (i := j_25) (by omega))
                  refine g_iald hC V 1 rfl (vp_in_nI (by omega) (by omega)) (v := (nI j_33)) (by rw [nI_clamp (by omega)]; exact ej_33) dX8_lives_92 ?_
                  refine lv_aload_n hx hb dX8_lives_93 rfl (lv_at hl 6 rfl) ?_
                  refine g_get hC V (ci := 8) uwX8 0 rfl rfl 1 (by decide) w_913 rfl rfl dX8_lives_94 ?_
                  refine lv_iconst (v := (nI 4)) hx hb dX8_lives_97 (by decide +kernel) ?_
                  refine lv_iload hx hb dX8_lives_98 (lv_at hl 1 rfl) ?_
                  refine lv_iadd hx hb dX8_lives_100 ?_
                  refine g_vi (y := (nI (4 + k21))) (nI_add _ _) ?_
                  obtain ⟨j_34, hj_34, ej_34⟩ := bd_ex (mi_blast hf6.1 (i := k21) (by omega))
                  refine g_iald hC V 1 rfl (vp_in_nI (by omega) (by omega)) (v := (nI j_34)) (by rw [nI_clamp (by omega)]; exact ej_34) dX8_lives_101 ?_
                  refine lv_iadd hx hb dX8_lives_102 ?_
                  refine g_vi (y := (nI (j_33 + j_34))) (nI_add _ _) ?_
                  refine lv_aload_n hx hb dX8_lives_103 rfl (lv_at hl 6 rfl) ?_
                  refine g_get hC V (ci := 8) uwX8 0 rfl rfl 1 (by decide) w_913 rfl rfl dX8_lives_104 ?_
                  refine lv_bipush (v := (nI 44)) hx hb dX8_lives_107 (by decide +kernel) ?_
                  refine lv_iload hx hb dX8_lives_109 (lv_at hl 0 rfl) ?_
                  refine lv_iadd hx hb dX8_lives_111 ?_
                  refine g_vi (y := (nI (44 + j_25))) (nI_add _ _) ?_
                  refine g_iald hC V 1 rfl (vp_in_nI (by omega) (by omega)) (v := (f6 (44 + j_25))) (congrArg _ (nI_clamp (by omega))) dX8_lives_112 ?_
                  refine lv_icmp_gt (tgt := 125) hx hb dX8_lives_113 (by decide) (fun c_35 => ?_) (fun c_35 => ?_)
                  · skip
                    refine lv_iinc (v := (nI (k21 + 1))) (lv' := [(9, .int (nI (k21 + 1))), (10, .int (nI j_25)), (8, .int sv), (7, .int pv), (6, .int (nI k6)), (5, .int x6_5), (0, .ref o), (1, .int (nI cn)), (2, .int lz), (3, .int (nI jf)), (4, .int bl)]) hx hb dX8_lives_125 hl (k := 1) rfl (nI_1 _) (by decide) rfl (fun ls hl => ?_)
                    refine lv_goto (tgt := 21) hx hb dX8_lives_128 (by decide) ?_
                    exact ih_21 (k21 + 1) pv sv (by omega) (by rw [hsv]; exact (cP_n hlz hnc (fun q => absurd c_35 ((bea_m ej_25 (by omega) ej_33 ej_34).mpr q))).1) (by rw [hpv]; exact (cP_n hlz hnc (fun q => absurd c_35 ((bea_m ej_25 (by omega) ej_33 ej_34).mpr q))).2) (by omega) _ _ _ V (lv_sub hl [0, 2, 3, 4, 5, 6, 7, 8, 9, 10] rfl)
                  · skip
                    refine lv_iload hx hb dX8_lives_116 (lv_at hl 3 rfl) ?_
                    refine lv_iconst (v := (nI 1)) hx hb dX8_lives_118 (by decide +kernel) ?_
                    refine lv_iload hx hb dX8_lives_119 (lv_at hl 1 rfl) ?_
                    refine lv_ishl hx hb dX8_lives_121 ?_
                    refine lv_ior hx hb dX8_lives_122 ?_
                    refine lv_istore (lv' := [(7, .int (pv ||| ((nI 1) <<< ((nI k21) &&& 31)))), (10, .int (nI j_25)), (9, .int (nI k21)), (8, .int sv), (6, .int (nI k6)), (5, .int x6_5), (0, .ref o), (1, .int (nI cn)), (2, .int lz), (3, .int (nI jf)), (4, .int bl)]) hx hb dX8_lives_123 hl (by decide) rfl (fun ls hl => ?_)
                    refine lv_iinc (v := (nI (k21 + 1))) (lv' := [(9, .int (nI (k21 + 1))), (7, .int (pv ||| ((nI 1) <<< ((nI k21) &&& 31)))), (10, .int (nI j_25)), (8, .int sv), (6, .int (nI k6)), (5, .int x6_5), (0, .ref o), (1, .int (nI cn)), (2, .int lz), (3, .int (nI jf)), (4, .int bl)]) hx hb dX8_lives_125 hl (k := 2) rfl (nI_1 _) (by decide) rfl (fun ls hl => ?_)
                    refine lv_goto (tgt := 21) hx hb dX8_lives_128 (by decide) ?_
                    exact ih_21 (k21 + 1) (pv ||| ((nI 1) <<< ((nI k21) &&& 31))) sv (by omega) (by rw [hsv]; exact (cP_y hlz hnc ((bea_m ej_25 (by omega) ej_33 ej_34).mp c_35)).1) (by rw [hpv]; exact (cP_y hlz hnc ((bea_m ej_25 (by omega) ej_33 ej_34).mp c_35)).2) (by omega) _ _ _ V (lv_sub hl [0, 3, 1, 4, 5, 6, 7, 8, 9, 10] rfl)
              · skip
                refine lv_goto (tgt := 125) hx hb dX8_lives_38 (by decide) ?_
                refine lv_iinc (v := (nI (k21 + 1))) (lv' := [(9, .int (nI (k21 + 1))), (8, .int sv), (7, .int pv), (6, .int (nI k6)), (5, .int x6_5), (0, .ref o), (1, .int (nI cn)), (2, .int lz), (3, .int (nI jf)), (4, .int bl)]) hx hb dX8_lives_125 hl (k := 0) rfl (nI_1 _) (by decide) rfl (fun ls hl => ?_)
                refine lv_goto (tgt := 21) hx hb dX8_lives_128 (by decide) ?_
                exact ih_21 (k21 + 1) pv sv (by omega) (by rw [hsv]; exact (cS_lz c_24).1) (by rw [hpv]; exact (cS_lz c_24).2) (by omega) _ _ _ V (lv_sub hl [0, 1, 2, 3, 4, 5, 6, 7, 8, 9] rfl)
        exact L_3 _ 0 (nI 0) (nI 0) (by omega) rfl rfl (Nat.lt_succ_self _) _ _ _ V (lv_sub hl [0, 1, 2, 3, 4, 5, 6, 7, 8, 9] rfl)
  exact L_1 _ 0 (nI 0) w16 fh fa (by omega) (by assumption) rfl (Nat.lt_succ_self _) _ _ _ V (lv_sub hl [0, 1, 2, 3, 4, 5, 6] rfl)

def q_m_doneByS_f (T : Nat → ClassId) (n : Nat) (o : Nat) (cn : Nat) (lz : Int32) (jf : Nat) (bl : Int32) (w0 : Int32) (g1 : Nat) (g2 : Nat) (g3 : Nat) (g4 : Nat) (tp : Nat) (w6 : Int32) (w7 : Int32) (w8 : Int32) (w9 : Int32) (w10 : Int32) (w11 : Int32) (w12 : Int32) (w13 : Int32) (w14 : Int32) (g15 : Nat) (w16 : Int32) (g17 : Nat) (w18 : Int32) (w19 : Int32) (g20 : Nat) (w21 : Int32) (g22 : Nat) (g23 : Nat) (g24 : Nat) (w25 : Int32) (w26 : Int32) (w27 : Int32) (g28 : Nat) (g29 : Nat) (w30 : Int32) (g31 : Nat) (g32 : Nat) (g33 : Nat) (fa : Nat → Int32) (fh : Nat → Int32) (fk : Nat → Int32) : Option Value → va_W → Prop := fun rr ww => (∃ (z : Int32) (bm : Int32) (gh : Nat → Int32) (gk : Nat → Int32), rr = some (.int z) ∧ ww = [(o, .inr (8, [.int w0, .ref g1, .ref g2, .ref g3, .ref g4, .int (nI tp), .int w6, .int w7, .int w8, .int w9, .int w10, .int w11, .int w12, .int w13, .int w14, .ref g15, .int bm, .ref g17, .int w18, .int w19, .ref g20, .int w21, .ref g22, .ref g23, .ref g24, .int w25, .int w26, .int w27, .ref g28, .ref g29, .int w30, .ref g31, .ref g32, .ref g33])), (g1, .inl (T 0, 282, .inl fa)), (g15, .inl (T 0, 10, .inl gh)), (g17, .inl (T 0, 94, .inl gk))] ∧ z = donF (csI n fa lz jf bl cn) n)
set_option maxHeartbeats 4000000 in
set_option maxRecDepth 100000 in
theorem m_doneByS_f (l : Launch) (D : va_G) (T : Nat → ClassId) (n : Nat) (o : Nat) (cn : Nat) (lz : Int32) (jf : Nat) (bl : Int32) (w0 : Int32) (g1 : Nat) (g2 : Nat) (g3 : Nat) (g4 : Nat) (tp : Nat) (w6 : Int32) (w7 : Int32) (w8 : Int32) (w9 : Int32) (w10 : Int32) (w11 : Int32) (w12 : Int32) (w13 : Int32) (w14 : Int32) (g15 : Nat) (w16 : Int32) (g17 : Nat) (w18 : Int32) (w19 : Int32) (g20 : Nat) (w21 : Int32) (g22 : Nat) (g23 : Nat) (g24 : Nat) (w25 : Int32) (w26 : Int32) (w27 : Int32) (g28 : Nat) (g29 : Nat) (w30 : Int32) (g31 : Nat) (g32 : Nat) (g33 : Nat) (fa : Nat → Int32) (fh : Nat → Int32) (fk : Nat → Int32) (h_a : MI n fa) (h_c : cn ≤ 1000) (h_jf : jf < n) : Ct l yX8_doneBy cX8_doneBy 6 (some .int) 4 0 0 D T [.ref o, .int (nI cn), .int lz, .int (nI jf), .int bl] [(o, .inr (8, [.int w0, .ref g1, .ref g2, .ref g3, .ref g4, .int (nI tp), .int w6, .int w7, .int w8, .int w9, .int w10, .int w11, .int w12, .int w13, .int w14, .ref g15, .int w16, .ref g17, .int w18, .int w19, .ref g20, .int w21, .ref g22, .ref g23, .ref g24, .int w25, .int w26, .int w27, .ref g28, .ref g29, .int w30, .ref g31, .ref g32, .ref g33])), (g1, .inl (T 0, 282, .inl fa)), (g15, .inl (T 0, 10, .inl fh)), (g17, .inl (T 0, 94, .inl fk))] (q_m_doneByS_f T n o cn lz jf bl w0 g1 g2 g3 g4 tp w6 w7 w8 w9 w10 w11 w12 w13 w14 g15 w16 g17 w18 w19 g20 w21 g22 g23 g24 w25 w26 w27 g28 g29 w30 g31 g32 g33 fa fh fk) := by
  refine Ct.of (cc := cX8_doneBy) (maxL := 6) (ret := (some .int)) (by decide) (Nat.le_of_ble_eq_true rfl) ?_
  intro p e s m args below meth c A ls hC hnm V hl
  obtain ⟨hx, hb, hr, hml, hown, hts, hlocks⟩ := id hC
  generalize hH : s.heap = H at V ⊢
  clear hH
  have hl : lv_has ls 6 [(0, .ref o), (1, .int (nI cn)), (2, .int lz), (3, .int (nI jf)), (4, .int bl)] := hl
  generalize hlo : ([] : List Loc) = locs at V ⊢
  clear hlo
  have ms0 := ms_rf h_a
  have hn10 := h_a.1
  refine lv_aload_n hx hb dX8_doneBy_0 rfl (lv_at hl 0 rfl) ?_
  refine g_callVU (nA := 0) hC V hl.1 (m_keeps l D T o w0 g1 g2 g3 g4 tp w6 w7 w8 w9 w10 w11 w12 w13 w14 g15 w16 g17 w18 w19 g20 w21 g22 g23 g24 w25 w26 w27 g28 g29 w30 g31 g32 g33 fa fk) w_1146 w_1148 w_s53 w_9 w_1149 (by decide +kernel) rfl ⟨(Nat.le_of_ble_eq_true rfl), (Nat.le_of_ble_eq_true rfl)⟩ 0 (ci := 8) rfl rfl [0, 1, 3] rfl rfl (Nat.le_of_ble_eq_true rfl) dX8_doneBy_1 ⟨(Nat.le_of_ble_eq_true rfl), (Nat.le_of_ble_eq_true rfl)⟩ rfl (fun r w1 H locs hQ V => ?_)
  obtain ⟨gk_1, rfl, rfl, f_2⟩ := hQ
  have V : gW D T A s [(o, .inr (8, [.int w0, .ref g1, .ref g2, .ref g3, .ref g4, .int (nI tp), .int w6, .int w7, .int w8, .int w9, .int w10, .int w11, .int w12, .int w13, .int w14, .ref g15, .int w16, .ref g17, .int w18, .int w19, .ref g20, .int w21, .ref g22, .ref g23, .ref g24, .int w25, .int w26, .int w27, .ref g28, .ref g29, .int w30, .ref g31, .ref g32, .ref g33])), (g1, .inl (T 0, 282, .inl fa)), (g15, .inl (T 0, 10, .inl fh)), (g17, .inl (T 0, 94, .inl gk_1))] H locs := V _ [0, 0, 1] rfl rfl rfl (by decide +kernel) rfl
  show W p l e _ s m args below meth c H locs _ _ _ (F0 m 4 ls [])
  refine lv_aload_n hx hb dX8_doneBy_4 rfl (lv_at hl 0 rfl) ?_
  refine lv_iload_n hx hb dX8_doneBy_5 rfl (lv_at hl 1 rfl) ?_
  refine lv_iload_n hx hb dX8_doneBy_6 rfl (lv_at hl 2 rfl) ?_
  refine lv_iload_n hx hb dX8_doneBy_7 rfl (lv_at hl 3 rfl) ?_
  refine lv_iload hx hb dX8_doneBy_8 (lv_at hl 4 rfl) ?_
  refine g_callVU (nA := 4) hC V hl.1 (m_livesS_f l D T n o cn lz jf bl w0 g1 g2 g3 g4 tp w6 w7 w8 w9 w10 w11 w12 w13 w14 g15 w16 g17 w18 w19 g20 w21 g22 g23 g24 w25 w26 w27 g28 g29 w30 g31 g32 g33 fa fh h_a (by first | assumption | omega) (by first | assumption | omega)) w_1183 w_1185 w_s60 w_9 w_1186 (by decide +kernel) rfl ⟨(Nat.le_of_ble_eq_true rfl), (Nat.le_of_ble_eq_true rfl)⟩ 0 (ci := 8) rfl rfl [0, 1, 2] rfl rfl (Nat.le_of_ble_eq_true rfl) dX8_doneBy_10 ⟨(Nat.le_of_ble_eq_true rfl), (Nat.le_of_ble_eq_true rfl)⟩ rfl (fun r w1 H locs hQ V => ?_)
  obtain ⟨z_3, bm_4, ga_5, gh_6, rfl, rfl, f_7, f_8⟩ := hQ
  have V : gW D T A s [(o, .inr (8, [.int w0, .ref g1, .ref g2, .ref g3, .ref g4, .int (nI tp), .int w6, .int w7, .int w8, .int w9, .int w10, .int w11, .int w12, .int w13, .int w14, .ref g15, .int bm_4, .ref g17, .int w18, .int w19, .ref g20, .int w21, .ref g22, .ref g23, .ref g24, .int w25, .int w26, .int w27, .ref g28, .ref g29, .int w30, .ref g31, .ref g32, .ref g33])), (g1, .inl (T 0, 282, .inl ga_5)), (g15, .inl (T 0, 10, .inl gh_6)), (g17, .inl (T 0, 94, .inl gk_1))] H locs := V _ [0, 0, 0] rfl rfl rfl (by decide +kernel) rfl
  show W p l e _ s m args below meth c H locs _ _ _ (F0 m 13 ls [.int z_3])
  have hga_5 : MS n fa ga_5 := ms_tr (by assumption) f_7
  refine lv_pop hx hb dX8_doneBy_13 rfl ?_
  refine lv_aload_n hx hb dX8_doneBy_14 rfl (lv_at hl 0 rfl) ?_
  refine g_callVU (nA := 0) hC V hl.1 (m_doneMany_f l D T n o w0 g1 g2 g3 g4 tp w6 w7 w8 w9 w10 w11 w12 w13 w14 g15 bm_4 g17 w18 w19 g20 w21 g22 g23 g24 w25 w26 w27 g28 g29 w30 g31 g32 g33 ga_5 hga_5.1) w_1158 w_1160 w_s56 w_9 w_1161 (by decide +kernel) rfl ⟨(Nat.le_of_ble_eq_true rfl), (Nat.le_of_ble_eq_true rfl)⟩ 0 (ci := 8) rfl rfl [0, 1] rfl rfl (Nat.le_of_ble_eq_true rfl) dX8_doneBy_15 ⟨(Nat.le_of_ble_eq_true rfl), (Nat.le_of_ble_eq_true rfl)⟩ rfl (fun r w1 H locs hQ V => ?_)
  obtain ⟨z_9, rfl, rfl, f_10⟩ := hQ
  have V : gW D T A s [(o, .inr (8, [.int w0, .ref g1, .ref g2, .ref g3, .ref g4, .int (nI tp), .int w6, .int w7, .int w8, .int w9, .int w10, .int w11, .int w12, .int w13, .int w14, .ref g15, .int bm_4, .ref g17, .int w18, .int w19, .ref g20, .int w21, .ref g22, .ref g23, .ref g24, .int w25, .int w26, .int w27, .ref g28, .ref g29, .int w30, .ref g31, .ref g32, .ref g33])), (g1, .inl (T 0, 282, .inl ga_5)), (g15, .inl (T 0, 10, .inl gh_6)), (g17, .inl (T 0, 94, .inl gk_1))] H locs := V _ [0, 0] rfl rfl rfl (by decide +kernel) rfl
  show W p l e _ s m args below meth c H locs _ _ _ (F0 m 18 ls [.int z_9])
  refine lv_istore (lv' := [(5, .int z_9), (0, .ref o), (1, .int (nI cn)), (2, .int lz), (3, .int (nI jf)), (4, .int bl)]) hx hb dX8_doneBy_18 hl (by decide) rfl (fun ls hl => ?_)
  refine lv_aload_n hx hb dX8_doneBy_20 rfl (lv_at hl 1 rfl) ?_
  refine g_callVU (nA := 0) hC V hl.1 (m_isAgain l D T o w0 g1 g2 g3 g4 tp w6 w7 w8 w9 w10 w11 w12 w13 w14 g15 bm_4 g17 w18 w19 g20 w21 g22 g23 g24 w25 w26 w27 g28 g29 w30 g31 g32 g33 ga_5 gk_1) w_1162 w_1164 w_s57 w_9 w_1165 (by decide +kernel) rfl ⟨(Nat.le_of_ble_eq_true rfl), (Nat.le_of_ble_eq_true rfl)⟩ 0 (ci := 8) rfl rfl [0, 1, 3] rfl rfl (Nat.le_of_ble_eq_true rfl) dX8_doneBy_21 ⟨(Nat.le_of_ble_eq_true rfl), (Nat.le_of_ble_eq_true rfl)⟩ rfl (fun r w1 H locs hQ V => ?_)
  obtain ⟨ga_11, rfl, rfl, f_12, f_13⟩ := hQ
  have V : gW D T A s [(o, .inr (8, [.int w0, .ref g1, .ref g2, .ref g3, .ref g4, .int (nI tp), .int w6, .int w7, .int w8, .int w9, .int w10, .int w11, .int w12, .int w13, .int w14, .ref g15, .int bm_4, .ref g17, .int w18, .int w19, .ref g20, .int w21, .ref g22, .ref g23, .ref g24, .int w25, .int w26, .int w27, .ref g28, .ref g29, .int w30, .ref g31, .ref g32, .ref g33])), (g1, .inl (T 0, 282, .inl ga_11)), (g15, .inl (T 0, 10, .inl gh_6)), (g17, .inl (T 0, 94, .inl gk_1))] H locs := V _ [0, 0, 1] rfl rfl rfl (by decide +kernel) rfl
  show W p l e _ s m args below meth c H locs _ _ _ (F0 m 24 ls [])
  have ega_11 : ga_11 = fa := funext (fun j => if h : j < 94 then (f_12 j h).trans (f_2 j h) else (f_13 j (by omega)).trans ((by assumption : MS n fa _).2 j (by omega)))
  rw [ega_11] at V
  refine lv_iload hx hb dX8_doneBy_24 (lv_at hl 0 rfl) ?_
  exact g_iret (Qr := (q_m_doneByS_f T n o cn lz jf bl w0 g1 g2 g3 g4 tp w6 w7 w8 w9 w10 w11 w12 w13 w14 g15 w16 g17 w18 w19 g20 w21 g22 g23 g24 w25 w26 w27 g28 g29 w30 g31 g32 g33 fa fh fk)) hC V ⟨(Nat.le_of_ble_eq_true rfl), (Nat.le_of_ble_eq_true rfl)⟩ ⟨z_9, bm_4, gh_6, gk_1, rfl, rfl, (by rw [f_10, f_8])⟩ dX8_doneBy_26

def q_m_brings_f (T : Nat → ClassId) (n : Nat) (o : Nat) (i : Nat) (bl : Int32) (cn : Nat) (w0 : Int32) (g1 : Nat) (g2 : Nat) (g3 : Nat) (g4 : Nat) (tp : Nat) (w6 : Int32) (w7 : Int32) (w8 : Int32) (w9 : Int32) (w10 : Int32) (w11 : Int32) (w12 : Int32) (w13 : Int32) (w14 : Int32) (g15 : Nat) (w16 : Int32) (g17 : Nat) (w18 : Int32) (w19 : Int32) (g20 : Nat) (w21 : Int32) (g22 : Nat) (g23 : Nat) (g24 : Nat) (w25 : Int32) (w26 : Int32) (w27 : Int32) (g28 : Nat) (g29 : Nat) (w30 : Int32) (g31 : Nat) (g32 : Nat) (g33 : Nat) (fa : Nat → Int32) (fh : Nat → Int32) (fk : Nat → Int32) : Option Value → va_W → Prop := fun rr ww => (∃ (z : Int32) (bm : Int32) (gh : Nat → Int32) (gk : Nat → Int32), rr = some (.int z) ∧ ww = [(o, .inr (8, [.int w0, .ref g1, .ref g2, .ref g3, .ref g4, .int (nI tp), .int w6, .int w7, .int w8, .int w9, .int w10, .int w11, .int w12, .int w13, .int w14, .ref g15, .int bm, .ref g17, .int w18, .int w19, .ref g20, .int w21, .ref g22, .ref g23, .ref g24, .int w25, .int w26, .int w27, .ref g28, .ref g29, .int w30, .ref g31, .ref g32, .ref g33])), (g1, .inl (T 0, 282, .inl fa)), (g15, .inl (T 0, 10, .inl gh)), (g17, .inl (T 0, 94, .inl gk))] ∧ z = bpD n fa bl cn i - donF (cuI n fa (-1) cn) n)
set_option maxHeartbeats 4000000 in
set_option maxRecDepth 100000 in
theorem m_brings_f (l : Launch) (D : va_G) (T : Nat → ClassId) (n : Nat) (o : Nat) (i : Nat) (bl : Int32) (cn : Nat) (w0 : Int32) (g1 : Nat) (g2 : Nat) (g3 : Nat) (g4 : Nat) (tp : Nat) (w6 : Int32) (w7 : Int32) (w8 : Int32) (w9 : Int32) (w10 : Int32) (w11 : Int32) (w12 : Int32) (w13 : Int32) (w14 : Int32) (g15 : Nat) (w16 : Int32) (g17 : Nat) (w18 : Int32) (w19 : Int32) (g20 : Nat) (w21 : Int32) (g22 : Nat) (g23 : Nat) (g24 : Nat) (w25 : Int32) (w26 : Int32) (w27 : Int32) (g28 : Nat) (g29 : Nat) (w30 : Int32) (g31 : Nat) (g32 : Nat) (g33 : Nat) (fa : Nat → Int32) (fh : Nat → Int32) (fk : Nat → Int32) (h_a : MI n fa) (h_c : cn ≤ 1000) (h_i : i < n) : Ct l yX8_brings cX8_brings 4 (some .int) 5 0 0 D T [.ref o, .int (nI i), .int bl, .int (nI cn)] [(o, .inr (8, [.int w0, .ref g1, .ref g2, .ref g3, .ref g4, .int (nI tp), .int w6, .int w7, .int w8, .int w9, .int w10, .int w11, .int w12, .int w13, .int w14, .ref g15, .int w16, .ref g17, .int w18, .int w19, .ref g20, .int w21, .ref g22, .ref g23, .ref g24, .int w25, .int w26, .int w27, .ref g28, .ref g29, .int w30, .ref g31, .ref g32, .ref g33])), (g1, .inl (T 0, 282, .inl fa)), (g15, .inl (T 0, 10, .inl fh)), (g17, .inl (T 0, 94, .inl fk))] (q_m_brings_f T n o i bl cn w0 g1 g2 g3 g4 tp w6 w7 w8 w9 w10 w11 w12 w13 w14 g15 w16 g17 w18 w19 g20 w21 g22 g23 g24 w25 w26 w27 g28 g29 w30 g31 g32 g33 fa fh fk) := by
  refine Ct.of (cc := cX8_brings) (maxL := 4) (ret := (some .int)) (by decide) (Nat.le_of_ble_eq_true rfl) ?_
  intro p e s m args below meth c A ls hC hnm V hl
  obtain ⟨hx, hb, hr, hml, hown, hts, hlocks⟩ := id hC
  generalize hH : s.heap = H at V ⊢
  clear hH
  have hl : lv_has ls 4 [(0, .ref o), (1, .int (nI i)), (2, .int bl), (3, .int (nI cn))] := hl
  generalize hlo : ([] : List Loc) = locs at V ⊢
  clear hlo
  have ms0 := ms_rf h_a
  have hn10 := h_a.1
  refine lv_aload_n hx hb dX8_brings_0 rfl (lv_at hl 0 rfl) ?_
  refine lv_iload_n hx hb dX8_brings_1 rfl (lv_at hl 3 rfl) ?_
  refine lv_iconst (v := (-1)) hx hb dX8_brings_2 (by decide +kernel) ?_
  refine lv_aload_n hx hb dX8_brings_3 rfl (lv_at hl 0 rfl) ?_
  refine g_get hC V (ci := 8) uwX8 0 rfl rfl 1 (by decide) w_913 rfl rfl dX8_brings_4 ?_
  refine lv_bipush (v := (nI 84)) hx hb dX8_brings_7 (by decide +kernel) ?_
  refine lv_iload_n hx hb dX8_brings_9 rfl (lv_at hl 1 rfl) ?_
  refine lv_iadd hx hb dX8_brings_10 ?_
  refine g_vi (y := (nI (84 + i))) (nI_add _ _) ?_
  obtain ⟨j_1, hj_1, ej_1⟩ := bd_ex (mi_to h_a (i := i) (by omega))
  refine g_iald hC V 1 rfl (vp_in_nI (by omega) (by omega)) (v := (nI j_1)) (by rw [nI_clamp (by omega)]; exact ej_1) dX8_brings_11 ?_
  refine lv_iload_n hx hb dX8_brings_12 rfl (lv_at hl 2 rfl) ?_
  refine g_callV (wr := []) (nA := 4) hC V hl.1 (m_doneByS_f l D T n o cn (-1) j_1 bl w0 g1 g2 g3 g4 tp w6 w7 w8 w9 w10 w11 w12 w13 w14 g15 w16 g17 w18 w19 g20 w21 g22 g23 g24 w25 w26 w27 g28 g29 w30 g31 g32 g33 fa fh fk h_a (by first | assumption | omega) (by omega)) w_1179 w_1181 w_s59 w_9 w_1182 (by decide +kernel) rfl ⟨(Nat.le_of_ble_eq_true rfl), (Nat.le_of_ble_eq_true rfl)⟩ 0 (ci := 8) rfl rfl [0, 1, 2, 3] [] rfl rfl rfl rfl (by decide) (Nat.le_of_ble_eq_true rfl) dX8_brings_13 ⟨(Nat.le_of_ble_eq_true rfl), (Nat.le_of_ble_eq_true rfl)⟩ rfl (fun r w1 H locs hQ V => ?_)
  obtain ⟨z_2, bm_3, gh_4, gk_5, rfl, rfl, f_6⟩ := hQ
  have V : gW D T A s [(o, .inr (8, [.int w0, .ref g1, .ref g2, .ref g3, .ref g4, .int (nI tp), .int w6, .int w7, .int w8, .int w9, .int w10, .int w11, .int w12, .int w13, .int w14, .ref g15, .int bm_3, .ref g17, .int w18, .int w19, .ref g20, .int w21, .ref g22, .ref g23, .ref g24, .int w25, .int w26, .int w27, .ref g28, .ref g29, .int w30, .ref g31, .ref g32, .ref g33])), (g1, .inl (T 0, 282, .inl fa)), (g15, .inl (T 0, 10, .inl gh_4)), (g17, .inl (T 0, 94, .inl gk_5))] H locs := V
  show W p l e _ s m args below meth c H locs _ _ _ (F0 m 16 ls [.int z_2])
  refine lv_aload_n hx hb dX8_brings_16 rfl (lv_at hl 0 rfl) ?_
  refine lv_iload_n hx hb dX8_brings_17 rfl (lv_at hl 3 rfl) ?_
  refine lv_iconst (v := (-1)) hx hb dX8_brings_18 (by decide +kernel) ?_
  refine lv_iconst (v := (-1)) hx hb dX8_brings_19 (by decide +kernel) ?_
  refine lv_iconst (v := (nI 0)) hx hb dX8_brings_20 (by decide +kernel) ?_
  refine g_callV (wr := []) (nA := 4) hC V hl.1 (m_doneBy_f l D T n o cn (-1) w0 g1 g2 g3 g4 tp w6 w7 w8 w9 w10 w11 w12 w13 w14 g15 bm_3 g17 w18 w19 g20 w21 g22 g23 g24 w25 w26 w27 g28 g29 w30 g31 g32 g33 fa gh_4 gk_5 h_a (by first | assumption | omega)) w_1179 w_1181 w_s59 w_9 w_1182 (by decide +kernel) rfl ⟨(Nat.le_of_ble_eq_true rfl), (Nat.le_of_ble_eq_true rfl)⟩ 0 (ci := 8) rfl rfl [0, 1, 2, 3] [] rfl rfl rfl rfl (by decide) (Nat.le_of_ble_eq_true rfl) dX8_brings_21 ⟨(Nat.le_of_ble_eq_true rfl), (Nat.le_of_ble_eq_true rfl)⟩ rfl (fun r w1 H locs hQ V => ?_)
  obtain ⟨z_7, bm_8, gh_9, gk_10, rfl, rfl, f_11⟩ := hQ
  have V : gW D T A s [(o, .inr (8, [.int w0, .ref g1, .ref g2, .ref g3, .ref g4, .int (nI tp), .int w6, .int w7, .int w8, .int w9, .int w10, .int w11, .int w12, .int w13, .int w14, .ref g15, .int bm_8, .ref g17, .int w18, .int w19, .ref g20, .int w21, .ref g22, .ref g23, .ref g24, .int w25, .int w26, .int w27, .ref g28, .ref g29, .int w30, .ref g31, .ref g32, .ref g33])), (g1, .inl (T 0, 282, .inl fa)), (g15, .inl (T 0, 10, .inl gh_9)), (g17, .inl (T 0, 94, .inl gk_10))] H locs := V
  show W p l e _ s m args below meth c H locs _ _ _ (F0 m 24 ls [.int z_7, .int z_2])
  refine lv_isub hx hb dX8_brings_24 ?_
  exact g_iret (Qr := (q_m_brings_f T n o i bl cn w0 g1 g2 g3 g4 tp w6 w7 w8 w9 w10 w11 w12 w13 w14 g15 w16 g17 w18 w19 g20 w21 g22 g23 g24 w25 w26 w27 g28 g29 w30 g31 g32 g33 fa fh fk)) hC V ⟨(Nat.le_of_ble_eq_true rfl), (Nat.le_of_ble_eq_true rfl)⟩ ⟨(z_2 - z_7), bm_8, gh_9, gk_10, rfl, rfl, (by rw [f_6, f_11, bpD_e ej_1 (by omega)])⟩ dX8_brings_25

def q_m_stranger_f (T : Nat → ClassId) (n : Nat) (o : Nat) (i : Int32) (bl : Int32) (n_ : Int32) (w0 : Int32) (g1 : Nat) (g2 : Nat) (g3 : Nat) (g4 : Nat) (tp : Nat) (w6 : Int32) (w7 : Int32) (w8 : Int32) (w9 : Int32) (w10 : Int32) (w11 : Int32) (w12 : Int32) (w13 : Int32) (w14 : Int32) (g15 : Nat) (w16 : Int32) (g17 : Nat) (w18 : Int32) (w19 : Int32) (g20 : Nat) (w21 : Int32) (g22 : Nat) (g23 : Nat) (g24 : Nat) (w25 : Int32) (w26 : Int32) (w27 : Int32) (g28 : Nat) (g29 : Nat) (w30 : Int32) (g31 : Nat) (g32 : Nat) (g33 : Nat) (fa : Nat → Int32) (fh : Nat → Int32) (fk : Nat → Int32) : Option Value → va_W → Prop := fun rr ww => (∃ (z : Int32) (bm : Int32) (gh : Nat → Int32) (gk : Nat → Int32), rr = some (.int z) ∧ ww = [(o, .inr (8, [.int (nI 0), .ref g1, .ref g2, .ref g3, .ref g4, .int (nI tp), .int w6, .int w7, .int w8, .int w9, .int w10, .int w11, .int w12, .int w13, .int w14, .ref g15, .int bm, .ref g17, .int w18, .int w19, .ref g20, .int w21, .ref g22, .ref g23, .ref g24, .int w25, .int w26, .int w27, .ref g28, .ref g29, .int w30, .ref g31, .ref g32, .ref g33])), (g1, .inl (T 0, 282, .inl fa)), (g15, .inl (T 0, 10, .inl gh)), (g17, .inl (T 0, 94, .inl gk))] ∧ z = stA n fa i bl n_)
set_option maxHeartbeats 4000000 in
set_option maxRecDepth 100000 in
theorem m_stranger_f (l : Launch) (D : va_G) (T : Nat → ClassId) (n : Nat) (o : Nat) (i : Int32) (bl : Int32) (n_ : Int32) (w0 : Int32) (g1 : Nat) (g2 : Nat) (g3 : Nat) (g4 : Nat) (tp : Nat) (w6 : Int32) (w7 : Int32) (w8 : Int32) (w9 : Int32) (w10 : Int32) (w11 : Int32) (w12 : Int32) (w13 : Int32) (w14 : Int32) (g15 : Nat) (w16 : Int32) (g17 : Nat) (w18 : Int32) (w19 : Int32) (g20 : Nat) (w21 : Int32) (g22 : Nat) (g23 : Nat) (g24 : Nat) (w25 : Int32) (w26 : Int32) (w27 : Int32) (g28 : Nat) (g29 : Nat) (w30 : Int32) (g31 : Nat) (g32 : Nat) (g33 : Nat) (fa : Nat → Int32) (fh : Nat → Int32) (fk : Nat → Int32) (h_a : MI n fa) : Ct l yX8_stranger cX8_stranger 5 (some .int) 6 0 0 D T [.ref o, .int i, .int bl, .int n_] [(o, .inr (8, [.int w0, .ref g1, .ref g2, .ref g3, .ref g4, .int (nI tp), .int w6, .int w7, .int w8, .int w9, .int w10, .int w11, .int w12, .int w13, .int w14, .ref g15, .int w16, .ref g17, .int w18, .int w19, .ref g20, .int w21, .ref g22, .ref g23, .ref g24, .int w25, .int w26, .int w27, .ref g28, .ref g29, .int w30, .ref g31, .ref g32, .ref g33])), (g1, .inl (T 0, 282, .inl fa)), (g15, .inl (T 0, 10, .inl fh)), (g17, .inl (T 0, 94, .inl fk))] (q_m_stranger_f T n o i bl n_ w0 g1 g2 g3 g4 tp w6 w7 w8 w9 w10 w11 w12 w13 w14 g15 w16 g17 w18 w19 g20 w21 g22 g23 g24 w25 w26 w27 g28 g29 w30 g31 g32 g33 fa fh fk) := by
  refine Ct.of (cc := cX8_stranger) (maxL := 5) (ret := (some .int)) (by decide) (Nat.le_of_ble_eq_true rfl) ?_
  intro p e s m args below meth c A ls hC hnm V hl
  obtain ⟨hx, hb, hr, hml, hown, hts, hlocks⟩ := id hC
  generalize hH : s.heap = H at V ⊢
  clear hH
  have hl : lv_has ls 5 [(0, .ref o), (1, .int i), (2, .int bl), (3, .int n_)] := hl
  generalize hlo : ([] : List Loc) = locs at V ⊢
  clear hlo
  have ms0 := ms_rf h_a
  have hn10 := h_a.1
  refine lv_aload_n hx hb dX8_stranger_0 rfl (lv_at hl 0 rfl) ?_
  refine lv_iconst (v := (nI 0)) hx hb dX8_stranger_1 (by decide +kernel) ?_
  refine g_put hC V (ci := 8) uwX8 tyX8 tyX8_ok nmX8 0 rfl rfl 0 (by decide) w_912 rfl rfl rfl rfl (Nat.le_of_ble_eq_true rfl) (ws' := [(o, .inr (8, [.int (nI 0), .ref g1, .ref g2, .ref g3, .ref g4, .int (nI tp), .int w6, .int w7, .int w8, .int w9, .int w10, .int w11, .int w12, .int w13, .int w14, .ref g15, .int w16, .ref g17, .int w18, .int w19, .ref g20, .int w21, .ref g22, .ref g23, .ref g24, .int w25, .int w26, .int w27, .ref g28, .ref g29, .int w30, .ref g31, .ref g32, .ref g33])), (g1, .inl (T 0, 282, .inl fa)), (g15, .inl (T 0, 10, .inl fh)), (g17, .inl (T 0, 94, .inl fk))]) rfl dX8_stranger_2 (fun H locs V => ?_)
  refine lv_aload_n hx hb dX8_stranger_5 rfl (lv_at hl 0 rfl) ?_
  refine lv_iload_n hx hb dX8_stranger_6 rfl (lv_at hl 1 rfl) ?_
  refine g_callVU (nA := 1) hC V hl.1 (m_isSmith_f l D T n o i (nI 0) g1 g2 g3 g4 tp w6 w7 w8 w9 w10 w11 w12 w13 w14 g15 w16 g17 w18 w19 g20 w21 g22 g23 g24 w25 w26 w27 g28 g29 w30 g31 g32 g33 fa h_a) w_1083 w_1085 w_s46 w_9 w_1086 (by decide +kernel) rfl ⟨(Nat.le_of_ble_eq_true rfl), (Nat.le_of_ble_eq_true rfl)⟩ 0 (ci := 8) rfl rfl [0, 1] rfl rfl (Nat.le_of_ble_eq_true rfl) dX8_stranger_7 ⟨(Nat.le_of_ble_eq_true rfl), (Nat.le_of_ble_eq_true rfl)⟩ rfl (fun r w1 H locs hQ V => ?_)
  rcases hQ with ⟨j_1, rfl, rfl, f_2, f_3⟩ | ⟨rfl, rfl, f_4⟩
  · have V : gW D T A s [(o, .inr (8, [.int (nI 0), .ref g1, .ref g2, .ref g3, .ref g4, .int (nI tp), .int w6, .int w7, .int w8, .int w9, .int w10, .int w11, .int w12, .int w13, .int w14, .ref g15, .int w16, .ref g17, .int w18, .int w19, .ref g20, .int w21, .ref g22, .ref g23, .ref g24, .int w25, .int w26, .int w27, .ref g28, .ref g29, .int w30, .ref g31, .ref g32, .ref g33])), (g1, .inl (T 0, 282, .inl fa)), (g15, .inl (T 0, 10, .inl fh)), (g17, .inl (T 0, 94, .inl fk))] H locs := V _ [0, 0] rfl rfl rfl (by decide +kernel) rfl
    show W p l e _ s m args below meth c H locs _ _ _ (F0 m 10 ls [.int (nI 1)])
    rw [f_2] at hl
    refine lv_if_ne (tgt := 16) hx hb dX8_stranger_10 (by decide) (fun _ => ?_) (fun c => absurd (show (nI 1) = 0 from c) (by decide +kernel))
    refine lv_aload_n hx hb dX8_stranger_16 rfl (lv_at hl 0 rfl) ?_
    refine lv_iload_n hx hb dX8_stranger_17 rfl (lv_at hl 2 rfl) ?_
    refine lv_iload_n hx hb dX8_stranger_18 rfl (lv_at hl 3 rfl) ?_
    refine g_callVU (nA := 2) hC V hl.1 (m_refusesStranger_f l D T o bl n_ (nI 0) g1 g2 g3 g4 tp w6 w7 w8 w9 w10 w11 w12 w13 w14 g15 w16 g17 w18 w19 g20 w21 g22 g23 g24 w25 w26 w27 g28 g29 w30 g31 g32 g33 fa) w_1340 w_1342 w_s78 w_9 w_1343 (by decide +kernel) rfl ⟨(Nat.le_of_ble_eq_true rfl), (Nat.le_of_ble_eq_true rfl)⟩ 0 (ci := 8) rfl rfl [0, 1] rfl rfl (Nat.le_of_ble_eq_true rfl) dX8_stranger_19 ⟨(Nat.le_of_ble_eq_true rfl), (Nat.le_of_ble_eq_true rfl)⟩ rfl (fun r w1 H locs hQ V => ?_)
    rcases hQ with ⟨j_5, rfl, rfl, f_6, f_7, f_8, f_9⟩ | ⟨z_10, rfl, rfl, f_11, f_12⟩
    · have V : gW D T A s [(o, .inr (8, [.int (nI 0), .ref g1, .ref g2, .ref g3, .ref g4, .int (nI tp), .int w6, .int w7, .int w8, .int w9, .int w10, .int w11, .int w12, .int w13, .int w14, .ref g15, .int w16, .ref g17, .int w18, .int w19, .ref g20, .int w21, .ref g22, .ref g23, .ref g24, .int w25, .int w26, .int w27, .ref g28, .ref g29, .int w30, .ref g31, .ref g32, .ref g33])), (g1, .inl (T 0, 282, .inl fa)), (g15, .inl (T 0, 10, .inl fh)), (g17, .inl (T 0, 94, .inl fk))] H locs := V _ [0, 0] rfl rfl rfl (by decide +kernel) rfl
      show W p l e _ s m args below meth c H locs _ _ _ (F0 m 22 ls [.int (nI 0)])
      rw [f_8] at hl
      refine lv_istore (lv' := [(4, .int (nI 0)), (0, .ref o), (1, .int (nI j_1)), (2, .int bl), (3, .int (nI j_5))]) hx hb dX8_stranger_22 hl (by decide) rfl (fun ls hl => ?_)
      refine lv_iload hx hb dX8_stranger_24 (lv_at hl 0 rfl) ?_
      refine lv_if_eq (tgt := 34) hx hb dX8_stranger_26 (by decide) (fun _ => ?_) (fun c => absurd (show (nI 0) = 0 by decide +kernel) c)
      refine lv_aload_n hx hb dX8_stranger_34 rfl (lv_at hl 1 rfl) ?_
      refine lv_iload_n hx hb dX8_stranger_35 rfl (lv_at hl 2 rfl) ?_
      refine lv_iload_n hx hb dX8_stranger_36 rfl (lv_at hl 3 rfl) ?_
      refine lv_iload_n hx hb dX8_stranger_37 rfl (lv_at hl 4 rfl) ?_
      refine g_callV (wr := []) (nA := 3) hC V hl.1 (m_brings_f l D T n o j_1 bl j_5 (nI 0) g1 g2 g3 g4 tp w6 w7 w8 w9 w10 w11 w12 w13 w14 g15 w16 g17 w18 w19 g20 w21 g22 g23 g24 w25 w26 w27 g28 g29 w30 g31 g32 g33 fa fh fk h_a (by omega) f_3) w_1344 w_1346 w_s79 w_9 w_1347 (by decide +kernel) rfl ⟨(Nat.le_of_ble_eq_true rfl), (Nat.le_of_ble_eq_true rfl)⟩ 0 (ci := 8) rfl rfl [0, 1, 2, 3] [] rfl rfl rfl rfl (by decide) (Nat.le_of_ble_eq_true rfl) dX8_stranger_38 ⟨(Nat.le_of_ble_eq_true rfl), (Nat.le_of_ble_eq_true rfl)⟩ rfl (fun r w1 H locs hQ V => ?_)
      obtain ⟨z_13, bm_14, gh_15, gk_16, rfl, rfl, f_17⟩ := hQ
      have V : gW D T A s [(o, .inr (8, [.int (nI 0), .ref g1, .ref g2, .ref g3, .ref g4, .int (nI tp), .int w6, .int w7, .int w8, .int w9, .int w10, .int w11, .int w12, .int w13, .int w14, .ref g15, .int bm_14, .ref g17, .int w18, .int w19, .ref g20, .int w21, .ref g22, .ref g23, .ref g24, .int w25, .int w26, .int w27, .ref g28, .ref g29, .int w30, .ref g31, .ref g32, .ref g33])), (g1, .inl (T 0, 282, .inl fa)), (g15, .inl (T 0, 10, .inl gh_15)), (g17, .inl (T 0, 94, .inl gk_16))] H locs := V
      show W p l e _ s m args below meth c H locs _ _ _ (F0 m 41 ls [.int z_13])
      exact g_iret (Qr := (q_m_stranger_f T n o i bl n_ w0 g1 g2 g3 g4 tp w6 w7 w8 w9 w10 w11 w12 w13 w14 g15 w16 g17 w18 w19 g20 w21 g22 g23 g24 w25 w26 w27 g28 g29 w30 g31 g32 g33 fa fh fk)) hC V ⟨(Nat.le_of_ble_eq_true rfl), (Nat.le_of_ble_eq_true rfl)⟩ ⟨z_13, bm_14, gh_15, gk_16, rfl, rfl, (f_17.trans (st_y hn10 f_2 f_3 f_9 f_8 (by omega)))⟩ dX8_stranger_41
    · have V : gW D T A s [(o, .inr (8, [.int (nI 0), .ref g1, .ref g2, .ref g3, .ref g4, .int (nI tp), .int w6, .int w7, .int w8, .int w9, .int w10, .int w11, .int w12, .int w13, .int w14, .ref g15, .int w16, .ref g17, .int w18, .int w19, .ref g20, .int w21, .ref g22, .ref g23, .ref g24, .int w25, .int w26, .int w27, .ref g28, .ref g29, .int w30, .ref g31, .ref g32, .ref g33])), (g1, .inl (T 0, 282, .inl fa)), (g15, .inl (T 0, 10, .inl fh)), (g17, .inl (T 0, 94, .inl fk))] H locs := V _ [0, 0] rfl rfl rfl (by decide +kernel) rfl
      show W p l e _ s m args below meth c H locs _ _ _ (F0 m 22 ls [.int z_10])
      refine lv_istore (lv' := [(4, .int z_10), (0, .ref o), (1, .int (nI j_1)), (2, .int bl), (3, .int n_)]) hx hb dX8_stranger_22 hl (by decide) rfl (fun ls hl => ?_)
      refine lv_iload hx hb dX8_stranger_24 (lv_at hl 0 rfl) ?_
      refine lv_if_eq (tgt := 34) hx hb dX8_stranger_26 (by decide) (fun c_18 => ?_) (fun c_18 => ?_)
      · skip
        exact (absurd c_18 (by assumption) : False).elim
      · skip
        refine lv_iload hx hb dX8_stranger_29 (lv_at hl 0 rfl) ?_
        refine lv_goto (tgt := 41) hx hb dX8_stranger_31 (by decide) ?_
        exact g_iret (Qr := (q_m_stranger_f T n o i bl n_ w0 g1 g2 g3 g4 tp w6 w7 w8 w9 w10 w11 w12 w13 w14 g15 w16 g17 w18 w19 g20 w21 g22 g23 g24 w25 w26 w27 g28 g29 w30 g31 g32 g33 fa fh fk)) hC V ⟨(Nat.le_of_ble_eq_true rfl), (Nat.le_of_ble_eq_true rfl)⟩ ⟨z_10, w16, fh, fk, rfl, rfl, (st_n hn10 f_2 f_3 f_12 f_11)⟩ dX8_stranger_41
  · have V : gW D T A s [(o, .inr (8, [.int (nI 0), .ref g1, .ref g2, .ref g3, .ref g4, .int (nI tp), .int w6, .int w7, .int w8, .int w9, .int w10, .int w11, .int w12, .int w13, .int w14, .ref g15, .int w16, .ref g17, .int w18, .int w19, .ref g20, .int w21, .ref g22, .ref g23, .ref g24, .int w25, .int w26, .int w27, .ref g28, .ref g29, .int w30, .ref g31, .ref g32, .ref g33])), (g1, .inl (T 0, 282, .inl fa)), (g15, .inl (T 0, 10, .inl fh)), (g17, .inl (T 0, 94, .inl fk))] H locs := V _ [0, 0] rfl rfl rfl (by decide +kernel) rfl
    show W p l e _ s m args below meth c H locs _ _ _ (F0 m 10 ls [.int (nI 0)])
    refine lv_if_ne (tgt := 16) hx hb dX8_stranger_10 (by decide) (fun c => absurd (show (nI 0) = 0 by decide +kernel) c) (fun _ => ?_)
    refine lv_bipush (v := (-2)) hx hb dX8_stranger_13 (by decide +kernel) ?_
    exact g_iret (Qr := (q_m_stranger_f T n o i bl n_ w0 g1 g2 g3 g4 tp w6 w7 w8 w9 w10 w11 w12 w13 w14 g15 w16 g17 w18 w19 g20 w21 g22 g23 g24 w25 w26 w27 g28 g29 w30 g31 g32 g33 fa fh fk)) hC V ⟨(Nat.le_of_ble_eq_true rfl), (Nat.le_of_ble_eq_true rfl)⟩ ⟨(-2), w16, fh, fk, rfl, rfl, (st_o f_4)⟩ dX8_stranger_15

def q_m_bestPlace_f (T : Nat → ClassId) (n : Nat) (o : Nat) (bl : Int32) (n_ : Int32) (w0 : Int32) (g1 : Nat) (g2 : Nat) (g3 : Nat) (g4 : Nat) (tp : Nat) (w6 : Int32) (w7 : Int32) (w8 : Int32) (w9 : Int32) (w10 : Int32) (w11 : Int32) (w12 : Int32) (w13 : Int32) (w14 : Int32) (g15 : Nat) (w16 : Int32) (g17 : Nat) (w18 : Int32) (w19 : Int32) (g20 : Nat) (w21 : Int32) (g22 : Nat) (g23 : Nat) (g24 : Nat) (w25 : Int32) (w26 : Int32) (w27 : Int32) (g28 : Nat) (g29 : Nat) (w30 : Int32) (g31 : Nat) (g32 : Nat) (g33 : Nat) (fa : Nat → Int32) (fh : Nat → Int32) (fk : Nat → Int32) : Option Value → va_W → Prop := fun rr ww => (∃ (z : Int32) (bm : Int32) (gh : Nat → Int32) (gk : Nat → Int32), rr = some (.int z) ∧ ww = [(o, .inr (8, [.int (nI 0), .ref g1, .ref g2, .ref g3, .ref g4, .int (nI tp), .int w6, .int w7, .int w8, .int w9, .int w10, .int w11, .int w12, .int w13, .int w14, .ref g15, .int bm, .ref g17, .int w18, .int w19, .ref g20, .int w21, .ref g22, .ref g23, .ref g24, .int w25, .int w26, .int w27, .ref g28, .ref g29, .int w30, .ref g31, .ref g32, .ref g33])), (g1, .inl (T 0, 282, .inl fa)), (g15, .inl (T 0, 10, .inl gh)), (g17, .inl (T 0, 94, .inl gk))] ∧ z = bpA n fa bl n_)
set_option maxHeartbeats 4000000 in
set_option maxRecDepth 100000 in
theorem m_bestPlace_f (l : Launch) (D : va_G) (T : Nat → ClassId) (n : Nat) (o : Nat) (bl : Int32) (n_ : Int32) (w0 : Int32) (g1 : Nat) (g2 : Nat) (g3 : Nat) (g4 : Nat) (tp : Nat) (w6 : Int32) (w7 : Int32) (w8 : Int32) (w9 : Int32) (w10 : Int32) (w11 : Int32) (w12 : Int32) (w13 : Int32) (w14 : Int32) (g15 : Nat) (w16 : Int32) (g17 : Nat) (w18 : Int32) (w19 : Int32) (g20 : Nat) (w21 : Int32) (g22 : Nat) (g23 : Nat) (g24 : Nat) (w25 : Int32) (w26 : Int32) (w27 : Int32) (g28 : Nat) (g29 : Nat) (w30 : Int32) (g31 : Nat) (g32 : Nat) (g33 : Nat) (fa : Nat → Int32) (fh : Nat → Int32) (fk : Nat → Int32) (h_a : MI n fa) : Ct l yX8_bestPlace cX8_bestPlace 6 (some .int) 6 0 0 D T [.ref o, .int bl, .int n_] [(o, .inr (8, [.int w0, .ref g1, .ref g2, .ref g3, .ref g4, .int (nI tp), .int w6, .int w7, .int w8, .int w9, .int w10, .int w11, .int w12, .int w13, .int w14, .ref g15, .int w16, .ref g17, .int w18, .int w19, .ref g20, .int w21, .ref g22, .ref g23, .ref g24, .int w25, .int w26, .int w27, .ref g28, .ref g29, .int w30, .ref g31, .ref g32, .ref g33])), (g1, .inl (T 0, 282, .inl fa)), (g15, .inl (T 0, 10, .inl fh)), (g17, .inl (T 0, 94, .inl fk))] (q_m_bestPlace_f T n o bl n_ w0 g1 g2 g3 g4 tp w6 w7 w8 w9 w10 w11 w12 w13 w14 g15 w16 g17 w18 w19 g20 w21 g22 g23 g24 w25 w26 w27 g28 g29 w30 g31 g32 g33 fa fh fk) := by
  refine Ct.of (cc := cX8_bestPlace) (maxL := 6) (ret := (some .int)) (by decide) (Nat.le_of_ble_eq_true rfl) ?_
  intro p e s m args below meth c A ls hC hnm V hl
  obtain ⟨hx, hb, hr, hml, hown, hts, hlocks⟩ := id hC
  generalize hH : s.heap = H at V ⊢
  clear hH
  have hl : lv_has ls 6 [(0, .ref o), (1, .int bl), (2, .int n_)] := hl
  generalize hlo : ([] : List Loc) = locs at V ⊢
  clear hlo
  have ms0 := ms_rf h_a
  have hn10 := h_a.1
  refine lv_aload_n hx hb dX8_bestPlace_0 rfl (lv_at hl 0 rfl) ?_
  refine lv_iconst (v := (nI 0)) hx hb dX8_bestPlace_1 (by decide +kernel) ?_
  refine g_put hC V (ci := 8) uwX8 tyX8 tyX8_ok nmX8 0 rfl rfl 0 (by decide) w_912 rfl rfl rfl rfl (Nat.le_of_ble_eq_true rfl) (ws' := [(o, .inr (8, [.int (nI 0), .ref g1, .ref g2, .ref g3, .ref g4, .int (nI tp), .int w6, .int w7, .int w8, .int w9, .int w10, .int w11, .int w12, .int w13, .int w14, .ref g15, .int w16, .ref g17, .int w18, .int w19, .ref g20, .int w21, .ref g22, .ref g23, .ref g24, .int w25, .int w26, .int w27, .ref g28, .ref g29, .int w30, .ref g31, .ref g32, .ref g33])), (g1, .inl (T 0, 282, .inl fa)), (g15, .inl (T 0, 10, .inl fh)), (g17, .inl (T 0, 94, .inl fk))]) rfl dX8_bestPlace_2 (fun H locs V => ?_)
  refine lv_aload_n hx hb dX8_bestPlace_5 rfl (lv_at hl 0 rfl) ?_
  refine g_get hC V (ci := 8) uwX8 0 rfl rfl 1 (by decide) w_913 rfl rfl dX8_bestPlace_6 ?_
  refine lv_iconst (v := (nI 0)) hx hb dX8_bestPlace_9 (by decide +kernel) ?_
  refine g_iald hC V 1 rfl (vp_in_nI (by decide) (by decide)) (v := (nI n)) (by rw [nI_clamp (by decide)]; first | rfl | exact h_a.2.1) dX8_bestPlace_10 ?_
  refine lv_if_ne (tgt := 16) hx hb dX8_bestPlace_11 (by decide) (fun c_1 => ?_) (fun c_1 => ?_)
  · skip
    rw [show (0 : Int32) = nI 0 from rfl] at c_1
    have c_1 := b_ne (by omega) (by omega) c_1
    refine lv_aload_n hx hb dX8_bestPlace_16 rfl (lv_at hl 0 rfl) ?_
    refine lv_iload_n hx hb dX8_bestPlace_17 rfl (lv_at hl 1 rfl) ?_
    refine lv_iload_n hx hb dX8_bestPlace_18 rfl (lv_at hl 2 rfl) ?_
    refine g_callVU (nA := 2) hC V hl.1 (m_refusesStranger_f l D T o bl n_ (nI 0) g1 g2 g3 g4 tp w6 w7 w8 w9 w10 w11 w12 w13 w14 g15 w16 g17 w18 w19 g20 w21 g22 g23 g24 w25 w26 w27 g28 g29 w30 g31 g32 g33 fa) w_1340 w_1342 w_s78 w_9 w_1343 (by decide +kernel) rfl ⟨(Nat.le_of_ble_eq_true rfl), (Nat.le_of_ble_eq_true rfl)⟩ 0 (ci := 8) rfl rfl [0, 1] rfl rfl (Nat.le_of_ble_eq_true rfl) dX8_bestPlace_19 ⟨(Nat.le_of_ble_eq_true rfl), (Nat.le_of_ble_eq_true rfl)⟩ rfl (fun r w1 H locs hQ V => ?_)
    rcases hQ with ⟨jn, rfl, rfl, f_2, f_3, f_4, f_5⟩ | ⟨z_6, rfl, rfl, f_7, f_8⟩
    · have V : gW D T A s [(o, .inr (8, [.int (nI 0), .ref g1, .ref g2, .ref g3, .ref g4, .int (nI tp), .int w6, .int w7, .int w8, .int w9, .int w10, .int w11, .int w12, .int w13, .int w14, .ref g15, .int w16, .ref g17, .int w18, .int w19, .ref g20, .int w21, .ref g22, .ref g23, .ref g24, .int w25, .int w26, .int w27, .ref g28, .ref g29, .int w30, .ref g31, .ref g32, .ref g33])), (g1, .inl (T 0, 282, .inl fa)), (g15, .inl (T 0, 10, .inl fh)), (g17, .inl (T 0, 94, .inl fk))] H locs := V _ [0, 0] rfl rfl rfl (by decide +kernel) rfl
      show W p l e _ s m args below meth c H locs _ _ _ (F0 m 22 ls [.int (nI 0)])
      rw [f_4] at hl
      refine lv_istore_n (lv' := [(3, .int (nI 0)), (0, .ref o), (1, .int bl), (2, .int (nI jn))]) hx hb dX8_bestPlace_22 rfl hl (by decide) rfl (fun ls hl => ?_)
      refine lv_iload_n hx hb dX8_bestPlace_23 rfl (lv_at hl 0 rfl) ?_
      refine lv_if_eq (tgt := 29) hx hb dX8_bestPlace_24 (by decide) (fun _ => ?_) (fun c => absurd (show (nI 0) = 0 by decide +kernel) c)
      refine lv_iconst (v := (nI 0)) hx hb dX8_bestPlace_29 (by decide +kernel) ?_
      refine lv_istore (lv' := [(4, .int (nI 0)), (3, .int (nI 0)), (0, .ref o), (1, .int bl), (2, .int (nI jn))]) hx hb dX8_bestPlace_30 hl (by decide) rfl (fun ls hl => ?_)
      refine lv_iconst (v := (nI 1)) hx hb dX8_bestPlace_32 (by decide +kernel) ?_
      refine lv_istore (lv' := [(5, .int (nI 1)), (4, .int (nI 0)), (3, .int (nI 0)), (0, .ref o), (1, .int bl), (2, .int (nI jn))]) hx hb dX8_bestPlace_33 hl (by decide) rfl (fun ls hl => ?_)
      have L_9 : ∀ (fu : Nat) (k35 : Nat) (b4 : Nat) (bv : Int32) (th : Nat → Int32) (fk2 : Nat → Int32), k35 ≤ n → 1 ≤ k35 → b4 = bpR n fa bl jn k35 → b4 < n → n - k35 < fu → ∀ (H : Heap) (locs : List Loc) (ls : Array Slot), gW D T A s [(o, .inr (8, [.int (nI 0), .ref g1, .ref g2, .ref g3, .ref g4, .int (nI tp), .int w6, .int w7, .int w8, .int w9, .int w10, .int w11, .int w12, .int w13, .int w14, .ref g15, .int bv, .ref g17, .int w18, .int w19, .ref g20, .int w21, .ref g22, .ref g23, .ref g24, .int w25, .int w26, .int w27, .ref g28, .ref g29, .int w30, .ref g31, .ref g32, .ref g33])), (g1, .inl (T 0, 282, .inl fa)), (g15, .inl (T 0, 10, .inl th)), (g17, .inl (T 0, 94, .inl fk2))] H locs → lv_has ls 6 [(5, .int (nI k35)), (4, .int (nI b4)), (3, .int (nI 0)), (0, .ref o), (1, .int bl), (2, .int (nI jn))] → W p l e (rmD 6 0 0) s m args below meth c H locs 0 0 (MQ below (gQ D A (q_m_bestPlace_f T n o bl n_ w0 g1 g2 g3 g4 tp w6 w7 w8 w9 w10 w11 w12 w13 w14 g15 w16 g17 w18 w19 g20 w21 g22 g23 g24 w25 w26 w27 g28 g29 w30 g31 g32 g33 fa fh fk)) args s 0 0 A) (F0 m 35 ls []) := by
        intro fu_35
        induction fu_35 with
        | zero => intro k35 b4 bv th fk2 hk35 hk1 hb4 hb5 hmu; exact absurd hmu (Nat.not_lt_zero _)
        | succ fu_35 ih_35 =>
          intro k35 b4 bv th fk2 hk35 hk1 hb4 hb5 hmu_35 H locs ls V hl
          refine lv_iload hx hb dX8_bestPlace_35 (lv_at hl 0 rfl) ?_
          refine lv_aload_n hx hb dX8_bestPlace_37 rfl (lv_at hl 3 rfl) ?_
          refine g_get hC V (ci := 8) uwX8 0 rfl rfl 1 (by decide) w_913 rfl rfl dX8_bestPlace_38 ?_
          refine lv_iconst (v := (nI 0)) hx hb dX8_bestPlace_41 (by decide +kernel) ?_
          refine g_iald hC V 1 rfl (vp_in_nI (by decide) (by decide)) (v := (nI n)) (by rw [nI_clamp (by decide)]; first | rfl | exact h_a.2.1) dX8_bestPlace_42 ?_
          refine lv_icmp_ge (tgt := 75) hx hb dX8_bestPlace_43 (by decide) (fun c_10 => ?_) (fun c_10 => ?_)
          · skip
            have c_10 := b_le (by omega) (by omega) c_10
            refine lv_iload hx hb dX8_bestPlace_75 (lv_at hl 1 rfl) ?_
            exact g_iret (Qr := (q_m_bestPlace_f T n o bl n_ w0 g1 g2 g3 g4 tp w6 w7 w8 w9 w10 w11 w12 w13 w14 g15 w16 g17 w18 w19 g20 w21 g22 g23 g24 w25 w26 w27 g28 g29 w30 g31 g32 g33 fa fh fk)) hC V ⟨(Nat.le_of_ble_eq_true rfl), (Nat.le_of_ble_eq_true rfl)⟩ ⟨(nI b4), bv, th, fk2, rfl, rfl, (by rw [hb4, show k35 = n by omega]; exact bp_y (by omega) f_5 f_4 (by omega))⟩ dX8_bestPlace_77
          · skip
            have c_10 := b_nle (by omega) (by omega) c_10
            refine lv_aload_n hx hb dX8_bestPlace_46 rfl (lv_at hl 3 rfl) ?_
            refine lv_iload hx hb dX8_bestPlace_47 (lv_at hl 0 rfl) ?_
            refine lv_iload_n hx hb dX8_bestPlace_49 rfl (lv_at hl 4 rfl) ?_
            refine lv_iload_n hx hb dX8_bestPlace_50 rfl (lv_at hl 5 rfl) ?_
            refine g_callV (wr := []) (nA := 3) hC V hl.1 (m_brings_f l D T n o k35 bl jn (nI 0) g1 g2 g3 g4 tp w6 w7 w8 w9 w10 w11 w12 w13 w14 g15 bv g17 w18 w19 g20 w21 g22 g23 g24 w25 w26 w27 g28 g29 w30 g31 g32 g33 fa th fk2 h_a (by omega) (by omega)) w_1344 w_1346 w_s79 w_9 w_1347 (by decide +kernel) rfl ⟨(Nat.le_of_ble_eq_true rfl), (Nat.le_of_ble_eq_true rfl)⟩ 0 (ci := 8) rfl rfl [0, 1, 2, 3] [] rfl rfl rfl rfl (by decide) (Nat.le_of_ble_eq_true rfl) dX8_bestPlace_51 ⟨(Nat.le_of_ble_eq_true rfl), (Nat.le_of_ble_eq_true rfl)⟩ rfl (fun r w1 H locs hQ V => ?_)
            obtain ⟨z_11, bm_12, gh_13, gk_14, rfl, rfl, f_15⟩ := hQ
            have V : gW D T A s [(o, .inr (8, [.int (nI 0), .ref g1, .ref g2, .ref g3, .ref g4, .int (nI tp), .int w6, .int w7, .int w8, .int w9, .int w10, .int w11, .int w12, .int w13, .int w14, .ref g15, .int bm_12, .ref g17, .int w18, .int w19, .ref g20, .int w21, .ref g22, .ref g23, .ref g24, .int w25, .int w26, .int w27, .ref g28, .ref g29, .int w30, .ref g31, .ref g32, .ref g33])), (g1, .inl (T 0, 282, .inl fa)), (g15, .inl (T 0, 10, .inl gh_13)), (g17, .inl (T 0, 94, .inl gk_14))] H locs := V
            show W p l e _ s m args below meth c H locs _ _ _ (F0 m 54 ls [.int z_11])
            refine lv_aload_n hx hb dX8_bestPlace_54 rfl (lv_at hl 3 rfl) ?_
            refine lv_iload hx hb dX8_bestPlace_55 (lv_at hl 1 rfl) ?_
            refine lv_iload_n hx hb dX8_bestPlace_57 rfl (lv_at hl 4 rfl) ?_
            refine lv_iload_n hx hb dX8_bestPlace_58 rfl (lv_at hl 5 rfl) ?_
            refine g_callV (wr := []) (nA := 3) hC V hl.1 (m_brings_f l D T n o b4 bl jn (nI 0) g1 g2 g3 g4 tp w6 w7 w8 w9 w10 w11 w12 w13 w14 g15 bm_12 g17 w18 w19 g20 w21 g22 g23 g24 w25 w26 w27 g28 g29 w30 g31 g32 g33 fa gh_13 gk_14 h_a (by omega) (by omega)) w_1344 w_1346 w_s79 w_9 w_1347 (by decide +kernel) rfl ⟨(Nat.le_of_ble_eq_true rfl), (Nat.le_of_ble_eq_true rfl)⟩ 0 (ci := 8) rfl rfl [0, 1, 2, 3] [] rfl rfl rfl rfl (by decide) (Nat.le_of_ble_eq_true rfl) dX8_bestPlace_59 ⟨(Nat.le_of_ble_eq_true rfl), (Nat.le_of_ble_eq_true rfl)⟩ rfl (fun r w1 H locs hQ V => ?_)
            obtain ⟨z_16, bm_17, gh_18, gk_19, rfl, rfl, f_20⟩ := hQ
            have V : gW D T A s [(o, .inr (8, [.int (nI 0), .ref g1, .ref g2, .ref g3, .ref g4, .int (nI tp), .int w6, .int w7, .int w8, .int w9, .int w10, .int w11, .int w12, .int w13, .int w14, .ref g15, .int bm_17, .ref g17, .int w18, .int w19, .ref g20, .int w21, .ref g22, .ref g23, .ref g24, .int w25, .int w26, .int w27, .ref g28, .ref g29, .int w30, .ref g31, .ref g32, .ref g33])), (g1, .inl (T 0, 282, .inl fa)), (g15, .inl (T 0, 10, .inl gh_18)), (g17, .inl (T 0, 94, .inl gk_19))] H locs := V
            show W p l e _ s m args below meth c H locs _ _ _ (F0 m 62 ls [.int z_16, .int z_11])
            refine lv_icmp_le (tgt := 69) hx hb dX8_bestPlace_62 (by decide) (fun c_21 => ?_) (fun c_21 => ?_)
            · skip
              have hcm : ¬ bpD n fa bl jn (bpR n fa bl jn k35) < bpD n fa bl jn k35 := fun q => absurd ((bp_cmp (x := bpD n fa bl jn (bpR n fa bl jn k35)) (y := bpD n fa bl jn k35) (z := donF (cuI n fa (-1) jn) n) (don_12 _ hn10) (don_12 _ hn10) (don_12 _ hn10)).mpr q) (by rw [← hb4, ← f_15, ← f_20]; exact Int32.not_lt.mpr c_21)
              refine lv_iinc (v := (nI (k35 + 1))) (lv' := [(5, .int (nI (k35 + 1))), (4, .int (nI b4)), (3, .int (nI 0)), (0, .ref o), (1, .int bl), (2, .int (nI jn))]) hx hb dX8_bestPlace_69 hl (k := 0) rfl (nI_1 _) (by decide) rfl (fun ls hl => ?_)
              refine lv_goto (tgt := 35) hx hb dX8_bestPlace_72 (by decide) ?_
              exact ih_35 (k35 + 1) b4 bm_17 gh_18 gk_19 (by omega) (by omega) (hb4.trans (bpR_n (by omega) hcm).symm) (by omega) (by omega) _ _ _ V (lv_sub hl [0, 1, 2, 3, 4, 5] rfl)
            · skip
              have hcm : bpD n fa bl jn (bpR n fa bl jn k35) < bpD n fa bl jn k35 := (bp_cmp (x := bpD n fa bl jn (bpR n fa bl jn k35)) (y := bpD n fa bl jn k35) (z := donF (cuI n fa (-1) jn) n) (don_12 _ hn10) (don_12 _ hn10) (don_12 _ hn10)).mp (by rw [← hb4, ← f_15, ← f_20]; exact Int32.not_le.mp c_21)
              refine lv_iload hx hb dX8_bestPlace_65 (lv_at hl 0 rfl) ?_
              refine lv_istore (lv' := [(4, .int (nI k35)), (5, .int (nI k35)), (3, .int (nI 0)), (0, .ref o), (1, .int bl), (2, .int (nI jn))]) hx hb dX8_bestPlace_67 hl (by decide) rfl (fun ls hl => ?_)
              refine lv_iinc (v := (nI (k35 + 1))) (lv' := [(5, .int (nI (k35 + 1))), (4, .int (nI k35)), (3, .int (nI 0)), (0, .ref o), (1, .int bl), (2, .int (nI jn))]) hx hb dX8_bestPlace_69 hl (k := 1) rfl (nI_1 _) (by decide) rfl (fun ls hl => ?_)
              refine lv_goto (tgt := 35) hx hb dX8_bestPlace_72 (by decide) ?_
              exact ih_35 (k35 + 1) k35 bm_17 gh_18 gk_19 (by omega) (by omega) (bpR_y (by omega) hcm).symm (by omega) (by omega) _ _ _ V (lv_sub hl [0, 1, 2, 3, 4, 5] rfl)
      exact L_9 _ 1 0 w16 fh fk (by omega) (by omega) rfl (by omega) (Nat.lt_succ_self _) _ _ _ V (lv_sub hl [0, 1, 2, 3, 4, 5] rfl)
    · have V : gW D T A s [(o, .inr (8, [.int (nI 0), .ref g1, .ref g2, .ref g3, .ref g4, .int (nI tp), .int w6, .int w7, .int w8, .int w9, .int w10, .int w11, .int w12, .int w13, .int w14, .ref g15, .int w16, .ref g17, .int w18, .int w19, .ref g20, .int w21, .ref g22, .ref g23, .ref g24, .int w25, .int w26, .int w27, .ref g28, .ref g29, .int w30, .ref g31, .ref g32, .ref g33])), (g1, .inl (T 0, 282, .inl fa)), (g15, .inl (T 0, 10, .inl fh)), (g17, .inl (T 0, 94, .inl fk))] H locs := V _ [0, 0] rfl rfl rfl (by decide +kernel) rfl
      show W p l e _ s m args below meth c H locs _ _ _ (F0 m 22 ls [.int z_6])
      refine lv_istore_n (lv' := [(3, .int z_6), (0, .ref o), (1, .int bl), (2, .int n_)]) hx hb dX8_bestPlace_22 rfl hl (by decide) rfl (fun ls hl => ?_)
      refine lv_iload_n hx hb dX8_bestPlace_23 rfl (lv_at hl 0 rfl) ?_
      refine lv_if_eq (tgt := 29) hx hb dX8_bestPlace_24 (by decide) (fun c_22 => ?_) (fun c_22 => ?_)
      · skip
        exact (absurd c_22 (by assumption) : False).elim
      · skip
        refine lv_iload_n hx hb dX8_bestPlace_27 rfl (lv_at hl 0 rfl) ?_
        exact g_iret (Qr := (q_m_bestPlace_f T n o bl n_ w0 g1 g2 g3 g4 tp w6 w7 w8 w9 w10 w11 w12 w13 w14 g15 w16 g17 w18 w19 g20 w21 g22 g23 g24 w25 w26 w27 g28 g29 w30 g31 g32 g33 fa fh fk)) hC V ⟨(Nat.le_of_ble_eq_true rfl), (Nat.le_of_ble_eq_true rfl)⟩ ⟨z_6, w16, fh, fk, rfl, rfl, (bp_n (by omega) f_8 f_7)⟩ dX8_bestPlace_28
  · skip
    rw [show (0 : Int32) = nI 0 from rfl] at c_1
    have c_1 := b_eq (by omega) (by omega) c_1
    refine lv_iconst (v := (-1)) hx hb dX8_bestPlace_14 (by decide +kernel) ?_
    exact g_iret (Qr := (q_m_bestPlace_f T n o bl n_ w0 g1 g2 g3 g4 tp w6 w7 w8 w9 w10 w11 w12 w13 w14 g15 w16 g17 w18 w19 g20 w21 g22 g23 g24 w25 w26 w27 g28 g29 w30 g31 g32 g33 fa fh fk)) hC V ⟨(Nat.le_of_ble_eq_true rfl), (Nat.le_of_ble_eq_true rfl)⟩ ⟨(-1), w16, fh, fk, rfl, rfl, (bp_0 (by omega))⟩ dX8_bestPlace_15
