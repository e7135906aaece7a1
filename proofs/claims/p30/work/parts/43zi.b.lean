def q_m_offBy_f (T : Nat → ClassId) (o : Nat) (i : Nat) (k : Nat) (w0 : Int32) (g1 : Nat) (g2 : Nat) (g3 : Nat) (g4 : Nat) (tp : Nat) (w6 : Int32) (w7 : Int32) (w8 : Int32) (w9 : Int32) (w10 : Int32) (w11 : Int32) (w12 : Int32) (w13 : Int32) (w14 : Int32) (g15 : Nat) (w16 : Int32) (g17 : Nat) (w18 : Int32) (w19 : Int32) (g20 : Nat) (w21 : Int32) (g22 : Nat) (g23 : Nat) (g24 : Nat) (w25 : Int32) (w26 : Int32) (w27 : Int32) (g28 : Nat) (g29 : Nat) (w30 : Int32) (g31 : Nat) (g32 : Nat) (g33 : Nat) (fa : Nat → Int32) : Option Value → va_W → Prop := fun rr ww => (∃ (z : Int32), rr = some (.int z) ∧ ww = [(o, .inr (8, [.int w0, .ref g1, .ref g2, .ref g3, .ref g4, .int (nI tp), .int w6, .int w7, .int w8, .int w9, .int w10, .int w11, .int w12, .int w13, .int w14, .ref g15, .int w16, .ref g17, .int w18, .int w19, .ref g20, .int w21, .ref g22, .ref g23, .ref g24, .int w25, .int w26, .int w27, .ref g28, .ref g29, .int w30, .ref g31, .ref g32, .ref g33])), (g1, .inl (T 0, 282, .inl fa))] ∧ z = ofF fa i k)
set_option maxHeartbeats 4000000 in
set_option maxRecDepth 100000 in
theorem m_offBy_f (l : Launch) (D : va_G) (T : Nat → ClassId) (o : Nat) (i : Nat) (k : Nat) (w0 : Int32) (g1 : Nat) (g2 : Nat) (g3 : Nat) (g4 : Nat) (tp : Nat) (w6 : Int32) (w7 : Int32) (w8 : Int32) (w9 : Int32) (w10 : Int32) (w11 : Int32) (w12 : Int32) (w13 : Int32) (w14 : Int32) (g15 : Nat) (w16 : Int32) (g17 : Nat) (w18 : Int32) (w19 : Int32) (g20 : Nat) (w21 : Int32) (g22 : Nat) (g23 : Nat) (g24 : Nat) (w25 : Int32) (w26 : Int32) (w27 : Int32) (g28 : Nat) (g29 : Nat) (w30 : Int32) (g31 : Nat) (g32 : Nat) (g33 : Nat) (fa : Nat → Int32) (h_i : i < 10) (h_k : k < 10) : Ct l yX8_offBy cX8_offBy 4 (some .int) 0 0 0 D T [.ref o, .int (nI i), .int (nI k)] [(o, .inr (8, [.int w0, .ref g1, .ref g2, .ref g3, .ref g4, .int (nI tp), .int w6, .int w7, .int w8, .int w9, .int w10, .int w11, .int w12, .int w13, .int w14, .ref g15, .int w16, .ref g17, .int w18, .int w19, .ref g20, .int w21, .ref g22, .ref g23, .ref g24, .int w25, .int w26, .int w27, .ref g28, .ref g29, .int w30, .ref g31, .ref g32, .ref g33])), (g1, .inl (T 0, 282, .inl fa))] (q_m_offBy_f T o i k w0 g1 g2 g3 g4 tp w6 w7 w8 w9 w10 w11 w12 w13 w14 g15 w16 g17 w18 w19 g20 w21 g22 g23 g24 w25 w26 w27 g28 g29 w30 g31 g32 g33 fa) := by
  refine Ct.of (cc := cX8_offBy) (maxL := 4) (ret := (some .int)) (by decide) (Nat.le_of_ble_eq_true rfl) ?_
  intro p e s m args below meth c A ls hC hnm V hl
  obtain ⟨hx, hb, hr, hml, hown, hts, hlocks⟩ := id hC
  generalize hH : s.heap = H at V ⊢
  clear hH
  have hl : lv_has ls 4 [(0, .ref o), (1, .int (nI i)), (2, .int (nI k))] := hl
  generalize hlo : ([] : List Loc) = locs at V ⊢
  clear hlo
  refine lv_aload_n hx hb dX8_offBy_0 rfl (lv_at hl 0 rfl) ?_
  refine g_get hC V (ci := 8) uwX8 0 rfl rfl 1 (by decide) w_913 rfl rfl dX8_offBy_1 ?_
  refine lv_iconst (v := (nI 4)) hx hb dX8_offBy_4 (by decide +kernel) ?_
  refine lv_iload_n hx hb dX8_offBy_5 rfl (lv_at hl 1 rfl) ?_
  refine lv_iadd hx hb dX8_offBy_6 ?_
  refine g_vi (y := (nI (4 + i))) (nI_add _ _) ?_
  refine g_iald hC V 1 rfl (vp_in_nI (by omega) (by omega)) (v := (fa (4 + i))) (congrArg _ (nI_clamp (by omega))) dX8_offBy_7 ?_
  refine lv_aload_n hx hb dX8_offBy_8 rfl (lv_at hl 0 rfl) ?_
  refine g_get hC V (ci := 8) uwX8 0 rfl rfl 1 (by decide) w_913 rfl rfl dX8_offBy_9 ?_
  refine lv_bipush (v := (nI 14)) hx hb dX8_offBy_12 (by decide +kernel) ?_
  refine lv_iload_n hx hb dX8_offBy_14 rfl (lv_at hl 2 rfl) ?_
  refine lv_iadd hx hb dX8_offBy_15 ?_
  refine g_vi (y := (nI (14 + k))) (nI_add _ _) ?_
  refine g_iald hC V 1 rfl (vp_in_nI (by omega) (by omega)) (v := (fa (14 + k))) (congrArg _ (nI_clamp (by omega))) dX8_offBy_16 ?_
  refine lv_isub hx hb dX8_offBy_17 ?_
  refine lv_istore_n (lv' := [(3, .int ((fa (4 + i)) - (fa (14 + k)))), (0, .ref o), (1, .int (nI i)), (2, .int (nI k))]) hx hb dX8_offBy_18 rfl hl (by decide) rfl (fun ls hl => ?_)
  refine lv_iload_n hx hb dX8_offBy_19 rfl (lv_at hl 0 rfl) ?_
  refine lv_if_ge (tgt := 28) hx hb dX8_offBy_20 (by decide) (fun c_1 => ?_) (fun c_1 => ?_)
  · skip
    refine lv_iload_n hx hb dX8_offBy_28 rfl (lv_at hl 0 rfl) ?_
    exact g_iret (Qr := (q_m_offBy_f T o i k w0 g1 g2 g3 g4 tp w6 w7 w8 w9 w10 w11 w12 w13 w14 g15 w16 g17 w18 w19 g20 w21 g22 g23 g24 w25 w26 w27 g28 g29 w30 g31 g32 g33 fa)) hC V ⟨(Nat.le_of_ble_eq_true rfl), (Nat.le_of_ble_eq_true rfl)⟩ ⟨((fa (4 + i)) - (fa (14 + k))), rfl, rfl, (ofm_1 c_1)⟩ dX8_offBy_29
  · skip
    refine lv_iload_n hx hb dX8_offBy_23 rfl (lv_at hl 0 rfl) ?_
    refine lv_ineg hx hb dX8_offBy_24 ?_
    refine lv_goto (tgt := 29) hx hb dX8_offBy_25 (by decide) ?_
    exact g_iret (Qr := (q_m_offBy_f T o i k w0 g1 g2 g3 g4 tp w6 w7 w8 w9 w10 w11 w12 w13 w14 g15 w16 g17 w18 w19 g20 w21 g22 g23 g24 w25 w26 w27 g28 g29 w30 g31 g32 g33 fa)) hC V ⟨(Nat.le_of_ble_eq_true rfl), (Nat.le_of_ble_eq_true rfl)⟩ ⟨(-((fa (4 + i)) - (fa (14 + k)))), rfl, rfl, (ofm_2 c_1)⟩ dX8_offBy_29

def q_m_isOneRing_f (T : Nat → ClassId) (pp : List Nat) (n : Nat) (o : Nat) (w0 : Int32) (g1 : Nat) (g2 : Nat) (g3 : Nat) (g4 : Nat) (tp : Nat) (w6 : Int32) (w7 : Int32) (w8 : Int32) (w9 : Int32) (w10 : Int32) (w11 : Int32) (w12 : Int32) (w13 : Int32) (w14 : Int32) (g15 : Nat) (w16 : Int32) (g17 : Nat) (w18 : Int32) (w19 : Int32) (g20 : Nat) (w21 : Int32) (g22 : Nat) (g23 : Nat) (g24 : Nat) (w25 : Int32) (w26 : Int32) (w27 : Int32) (g28 : Nat) (g29 : Nat) (w30 : Int32) (g31 : Nat) (g32 : Nat) (g33 : Nat) (fa : Nat → Int32) (fo : Nat → Int32) : Option Value → va_W → Prop := fun rr ww => (rr = some (.int (nI 1)) ∧ ww = [(o, .inr (8, [.int w0, .ref g1, .ref g2, .ref g3, .ref g4, .int (nI tp), .int w6, .int w7, .int w8, .int w9, .int w10, .int w11, .int w12, .int w13, .int w14, .ref g15, .int w16, .ref g17, .int w18, .int w19, .ref g20, .int w21, .ref g22, .ref g23, .ref g24, .int w25, .int w26, .int w27, .ref g28, .ref g29, .int w30, .ref g31, .ref g32, .ref g33])), (g1, .inl (T 0, 282, .inl fa)), (g28, .inl (T 0, 7, .inl fo))] ∧ ringB n pp = true) ∨ (rr = some (.int (nI 0)) ∧ ww = [(o, .inr (8, [.int w0, .ref g1, .ref g2, .ref g3, .ref g4, .int (nI tp), .int w6, .int w7, .int w8, .int w9, .int w10, .int w11, .int w12, .int w13, .int w14, .ref g15, .int w16, .ref g17, .int w18, .int w19, .ref g20, .int w21, .ref g22, .ref g23, .ref g24, .int w25, .int w26, .int w27, .ref g28, .ref g29, .int w30, .ref g31, .ref g32, .ref g33])), (g1, .inl (T 0, 282, .inl fa)), (g28, .inl (T 0, 7, .inl fo))] ∧ ringB n pp = false)
set_option maxHeartbeats 4000000 in
set_option maxRecDepth 100000 in
theorem m_isOneRing_f (l : Launch) (D : va_G) (T : Nat → ClassId) (pp : List Nat) (n : Nat) (o : Nat) (w0 : Int32) (g1 : Nat) (g2 : Nat) (g3 : Nat) (g4 : Nat) (tp : Nat) (w6 : Int32) (w7 : Int32) (w8 : Int32) (w9 : Int32) (w10 : Int32) (w11 : Int32) (w12 : Int32) (w13 : Int32) (w14 : Int32) (g15 : Nat) (w16 : Int32) (g17 : Nat) (w18 : Int32) (w19 : Int32) (g20 : Nat) (w21 : Int32) (g22 : Nat) (g23 : Nat) (g24 : Nat) (w25 : Int32) (w26 : Int32) (w27 : Int32) (g28 : Nat) (g29 : Nat) (w30 : Int32) (g31 : Nat) (g32 : Nat) (g33 : Nat) (fa : Nat → Int32) (fo : Nat → Int32) (h_a : MI n fa) (h_lf : LF n fo) (h_1 : 1 ≤ n) (h_7 : n ≤ 7) (h_pp : PFX n pp n fo) : Ct l yX8_isOneRing cX8_isOneRing 3 (some .boolean) 0 0 0 D T [.ref o] [(o, .inr (8, [.int w0, .ref g1, .ref g2, .ref g3, .ref g4, .int (nI tp), .int w6, .int w7, .int w8, .int w9, .int w10, .int w11, .int w12, .int w13, .int w14, .ref g15, .int w16, .ref g17, .int w18, .int w19, .ref g20, .int w21, .ref g22, .ref g23, .ref g24, .int w25, .int w26, .int w27, .ref g28, .ref g29, .int w30, .ref g31, .ref g32, .ref g33])), (g1, .inl (T 0, 282, .inl fa)), (g28, .inl (T 0, 7, .inl fo))] (q_m_isOneRing_f T pp n o w0 g1 g2 g3 g4 tp w6 w7 w8 w9 w10 w11 w12 w13 w14 g15 w16 g17 w18 w19 g20 w21 g22 g23 g24 w25 w26 w27 g28 g29 w30 g31 g32 g33 fa fo) := by
  refine Ct.of (cc := cX8_isOneRing) (maxL := 3) (ret := (some .boolean)) (by decide) (Nat.le_of_ble_eq_true rfl) ?_
  intro p e s m args below meth c A ls hC hnm V hl
  obtain ⟨hx, hb, hr, hml, hown, hts, hlocks⟩ := id hC
  generalize hH : s.heap = H at V ⊢
  clear hH
  have hl : lv_has ls 3 [(0, .ref o)] := hl
  generalize hlo : ([] : List Loc) = locs at V ⊢
  clear hlo
  have ms0 := ms_rf h_a
  have hn10 := h_a.1
  obtain ⟨mq, hm1, hm2, hm3⟩ := lf_cyc h_lf h_1
  have hbd : ∀ a, a < n → bd (fo a) n := fun a ha => lf_bd h_lf ha
  refine lv_iconst (v := (nI 0)) hx hb dX8_isOneRing_0 (by decide +kernel) ?_
  refine lv_istore_n (lv' := [(1, .int (nI 0)), (0, .ref o)]) hx hb dX8_isOneRing_1 rfl hl (by decide) rfl (fun ls hl => ?_)
  refine lv_iconst (v := (nI 0)) hx hb dX8_isOneRing_2 (by decide +kernel) ?_
  refine lv_istore_n (lv' := [(2, .int (nI 0)), (1, .int (nI 0)), (0, .ref o)]) hx hb dX8_isOneRing_3 rfl hl (by decide) rfl (fun ls hl => ?_)
  have L_1 : ∀ (fu : Nat) (at_ : Nat) (kq : Nat), (at_ = itF fo kq ∧ at_ < n) → kq < mq → rgC pp (n + 1) 0 0 = rgC pp (n + 1 - kq) at_ kq → mq - kq < fu → ∀ (H : Heap) (locs : List Loc) (ls : Array Slot), gW D T A s [(o, .inr (8, [.int w0, .ref g1, .ref g2, .ref g3, .ref g4, .int (nI tp), .int w6, .int w7, .int w8, .int w9, .int w10, .int w11, .int w12, .int w13, .int w14, .ref g15, .int w16, .ref g17, .int w18, .int w19, .ref g20, .int w21, .ref g22, .ref g23, .ref g24, .int w25, .int w26, .int w27, .ref g28, .ref g29, .int w30, .ref g31, .ref g32, .ref g33])), (g1, .inl (T 0, 282, .inl fa)), (g28, .inl (T 0, 7, .inl fo))] H locs → lv_has ls 3 [(2, .int (nI kq)), (1, .int (nI at_)), (0, .ref o)] → W p l e (rmD 0 0 0) s m args below meth c H locs 0 0 (MQ below (gQ D A (q_m_isOneRing_f T pp n o w0 g1 g2 g3 g4 tp w6 w7 w8 w9 w10 w11 w12 w13 w14 g15 w16 g17 w18 w19 g20 w21 g22 g23 g24 w25 w26 w27 g28 g29 w30 g31 g32 g33 fa fo)) args s 0 0 A) (F0 m 4 ls []) := by
    intro fu_4
    induction fu_4 with
    | zero => intro at_ kq hat hkq hE hmu; exact absurd hmu (Nat.not_lt_zero _)
    | succ fu_4 ih_4 =>
      intro at_ kq hat hkq hE hmu_4 H locs ls V hl
      refine lv_aload_n hx hb dX8_isOneRing_4 rfl (lv_at hl 2 rfl) ?_
      refine g_get hC V (ci := 8) uwX8 0 rfl rfl 28 (by decide) w_940 rfl rfl dX8_isOneRing_5 ?_
      refine lv_iload_n hx hb dX8_isOneRing_8 rfl (lv_at hl 1 rfl) ?_
      obtain ⟨j_2, hj_2, ej_2⟩ := bd_ex (hbd at_ (by omega))
      refine g_iald hC V 2 rfl (vp_in_nI (by omega) (by omega)) (v := (nI j_2)) (by rw [nI_clamp (by omega)]; exact ej_2) dX8_isOneRing_9 ?_
      have hnx := lf_nx hat (by assumption) (by omega) h_7
      have hjg : j_2 = pp.getD at_ 0 := b_eq (by omega) (by have := (h_pp.2 at_ hat.2).2; omega) (ej_2.symm.trans (h_pp.2 at_ hat.2).1)
      refine lv_istore_n (lv' := [(1, .int (nI j_2)), (2, .int (nI kq)), (0, .ref o)]) hx hb dX8_isOneRing_10 rfl hl (by decide) rfl (fun ls hl => ?_)
      refine lv_iinc (v := (nI (kq + 1))) (lv' := [(2, .int (nI (kq + 1))), (1, .int (nI j_2)), (0, .ref o)]) hx hb dX8_isOneRing_11 hl (k := 1) rfl (nI_1 _) (by decide) rfl (fun ls hl => ?_)
      refine lv_iload_n hx hb dX8_isOneRing_14 rfl (lv_at hl 1 rfl) ?_
      refine lv_if_ne (tgt := 4) hx hb dX8_isOneRing_15 (by decide) (fun c_3 => ?_) (fun c_3 => ?_)
      · skip
        rw [show (0 : Int32) = nI 0 from rfl] at c_3
        have c_3 := b_ne (by omega) (by omega) c_3
        have hgo := lf_go hm3 hnx hkq (fun e => c_3 (by rw [e]))
        exact ih_4 j_2 (kq + 1) hnx hgo (hE.trans ((rg_s (fun q => c_3 (hjg.trans q)) (by omega)).trans (by rw [← hjg, Nat.sub_sub]))) (by omega) _ _ _ V (lv_sub hl [0, 1, 2] rfl)
      · skip
        rw [show (0 : Int32) = nI 0 from rfl] at c_3
        have c_3 := b_eq (by omega) (by omega) c_3
        refine lv_iload_n hx hb dX8_isOneRing_18 rfl (lv_at hl 0 rfl) ?_
        refine lv_aload_n hx hb dX8_isOneRing_19 rfl (lv_at hl 2 rfl) ?_
        refine g_get hC V (ci := 8) uwX8 0 rfl rfl 1 (by decide) w_913 rfl rfl dX8_isOneRing_20 ?_
        refine lv_iconst (v := (nI 0)) hx hb dX8_isOneRing_23 (by decide +kernel) ?_
        refine g_iald hC V 1 rfl (vp_in_nI (by decide) (by decide)) (v := (nI n)) (by rw [nI_clamp (by decide)]; first | rfl | exact h_a.2.1) dX8_isOneRing_24 ?_
        refine lv_icmp_ne (tgt := 32) hx hb dX8_isOneRing_25 (by decide) (fun c_4 => ?_) (fun c_4 => ?_)
        · skip
          have c_4 := b_ne (by omega) (by omega) c_4
          refine lv_iconst (v := (nI 0)) hx hb dX8_isOneRing_32 (by decide +kernel) ?_
          exact g_zret (Qr := (q_m_isOneRing_f T pp n o w0 g1 g2 g3 g4 tp w6 w7 w8 w9 w10 w11 w12 w13 w14 g15 w16 g17 w18 w19 g20 w21 g22 g23 g24 w25 w26 w27 g28 g29 w30 g31 g32 g33 fa fo)) hC V ⟨(Nat.le_of_ble_eq_true rfl), (Nat.le_of_ble_eq_true rfl)⟩ (by first | decide +kernel | exact rfl) (.inr ⟨rfl, rfl, (rg_n (hE.trans (rg_0 (n := n) (hjg.symm.trans c_3) (by omega))) (by omega))⟩) dX8_isOneRing_33
        · skip
          have c_4 := b_eq (by omega) (by omega) c_4
          refine lv_iconst (v := (nI 1)) hx hb dX8_isOneRing_28 (by decide +kernel) ?_
          refine lv_goto (tgt := 33) hx hb dX8_isOneRing_29 (by decide) ?_
          exact g_zret (Qr := (q_m_isOneRing_f T pp n o w0 g1 g2 g3 g4 tp w6 w7 w8 w9 w10 w11 w12 w13 w14 g15 w16 g17 w18 w19 g20 w21 g22 g23 g24 w25 w26 w27 g28 g29 w30 g31 g32 g33 fa fo)) hC V ⟨(Nat.le_of_ble_eq_true rfl), (Nat.le_of_ble_eq_true rfl)⟩ (by first | decide +kernel | exact rfl) (.inl ⟨rfl, rfl, (rg_t (hE.trans (rg_0 (n := n) (hjg.symm.trans c_3) (by omega))) (by omega))⟩) dX8_isOneRing_33
  exact L_1 _ 0 0 ⟨rfl, h_1⟩ (by omega) rfl (Nat.lt_succ_self _) _ _ _ V (lv_sub hl [0, 1, 2] rfl)

def q_m_laysf7 (T : Nat → ClassId) (pp : List Nat) (so_ : Option (List Nat)) (n : Nat) (o : Nat) (u : Nat) (sum : Int32) (w0 : Int32) (g1 : Nat) (g2 : Nat) (g3 : Nat) (g4 : Nat) (tp : Nat) (w6 : Int32) (w7 : Int32) (w8 : Int32) (w9 : Int32) (w10 : Int32) (w11 : Int32) (w12 : Int32) (w13 : Int32) (w14 : Int32) (g15 : Nat) (w16 : Int32) (g17 : Nat) (w18 : Int32) (w19 : Int32) (g20 : Nat) (w21 : Int32) (g22 : Nat) (g23 : Nat) (g24 : Nat) (w25 : Int32) (w26 : Int32) (w27 : Int32) (g28 : Nat) (g29 : Nat) (w30 : Int32) (g31 : Nat) (g32 : Nat) (g33 : Nat) (fa : Nat → Int32) (fo : Nat → Int32) (fp : Nat → Int32) : Option Value → va_W → Prop := fun rr ww => (∃ (bs : Int32) (go : Nat → Int32) (gp : Nat → Int32), rr = none ∧ ww = [(o, .inr (8, [.int w0, .ref g1, .ref g2, .ref g3, .ref g4, .int (nI tp), .int w6, .int w7, .int w8, .int w9, .int w10, .int w11, .int w12, .int w13, .int w14, .ref g15, .int w16, .ref g17, .int w18, .int w19, .ref g20, .int w21, .ref g22, .ref g23, .ref g24, .int w25, .int w26, .int w27, .ref g28, .ref g29, .int bs, .ref g31, .ref g32, .ref g33])), (g1, .inl (T 0, 282, .inl fa)), (g28, .inl (T 0, 7, .inl go)), (g29, .inl (T 0, 7, .inl gp))] ∧ (∀ j, j < 7 → go j = fo j) ∧ RST n fa ((gA n (n - 7) pp).foldl (upR n fa) so_) bs gp)
set_option maxHeartbeats 4000000 in
set_option maxRecDepth 100000 in
theorem m_laysf7 (l : Launch) (D : va_G) (T : Nat → ClassId) (pp : List Nat) (so_ : Option (List Nat)) (n : Nat) (o : Nat) (u : Nat) (sum : Int32) (w0 : Int32) (g1 : Nat) (g2 : Nat) (g3 : Nat) (g4 : Nat) (tp : Nat) (w6 : Int32) (w7 : Int32) (w8 : Int32) (w9 : Int32) (w10 : Int32) (w11 : Int32) (w12 : Int32) (w13 : Int32) (w14 : Int32) (g15 : Nat) (w16 : Int32) (g17 : Nat) (w18 : Int32) (w19 : Int32) (g20 : Nat) (w21 : Int32) (g22 : Nat) (g23 : Nat) (g24 : Nat) (w25 : Int32) (w26 : Int32) (w27 : Int32) (g28 : Nat) (g29 : Nat) (w30 : Int32) (g31 : Nat) (g32 : Nat) (g33 : Nat) (fa : Nat → Int32) (fo : Nat → Int32) (fp : Nat → Int32) (h_a : MI n fa) (h_li : LI 7 fo) (h_lt : ∀ j, j < 7 → toF fo j < n) (h_ub : UB 7 u fo) (h_1 : 1 ≤ n) (h_7 : n ≤ 7) (h_kn : 7 ≤ n) (h_pp : PFX n pp 7 fo) (h_us : USR pp u) (h_sum : sum = nI (smL fa 0 pp)) (h_sb : smL fa 0 pp ≤ 60 * 7) (h_st : RST n fa so_ w30 fp) : Ct l yX8_lays cX8_lays 5 none 2 0 0 D T [.ref o, .int (nI 7), .int (nI u), .int sum] [(o, .inr (8, [.int w0, .ref g1, .ref g2, .ref g3, .ref g4, .int (nI tp), .int w6, .int w7, .int w8, .int w9, .int w10, .int w11, .int w12, .int w13, .int w14, .ref g15, .int w16, .ref g17, .int w18, .int w19, .ref g20, .int w21, .ref g22, .ref g23, .ref g24, .int w25, .int w26, .int w27, .ref g28, .ref g29, .int w30, .ref g31, .ref g32, .ref g33])), (g1, .inl (T 0, 282, .inl fa)), (g28, .inl (T 0, 7, .inl fo)), (g29, .inl (T 0, 7, .inl fp))] (q_m_laysf7 T pp so_ n o u sum w0 g1 g2 g3 g4 tp w6 w7 w8 w9 w10 w11 w12 w13 w14 g15 w16 g17 w18 w19 g20 w21 g22 g23 g24 w25 w26 w27 g28 g29 w30 g31 g32 g33 fa fo fp) := by
  refine Ct.of (cc := cX8_lays) (maxL := 5) (ret := none) (by decide) (Nat.le_of_ble_eq_true rfl) ?_
  intro p e s m args below meth c A ls hC hnm V hl
  obtain ⟨hx, hb, hr, hml, hown, hts, hlocks⟩ := id hC
  generalize hH : s.heap = H at V ⊢
  clear hH
  have hl : lv_has ls 5 [(0, .ref o), (1, .int (nI 7)), (2, .int (nI u)), (3, .int sum)] := hl
  generalize hlo : ([] : List Loc) = locs at V ⊢
  clear hlo
  have ms0 := ms_rf h_a
  have hn10 := h_a.1
  have hu := h_ub.1
  refine lv_iload_n hx hb dX8_lays_0 rfl (lv_at hl 1 rfl) ?_
  refine lv_aload_n hx hb dX8_lays_1 rfl (lv_at hl 0 rfl) ?_
  refine g_get hC V (ci := 8) uwX8 0 rfl rfl 1 (by decide) w_913 rfl rfl dX8_lays_2 ?_
  refine lv_iconst (v := (nI 0)) hx hb dX8_lays_5 (by decide +kernel) ?_
  refine g_iald hC V 1 rfl (vp_in_nI (by decide) (by decide)) (v := (nI n)) (by rw [nI_clamp (by decide)]; first | rfl | exact h_a.2.1) dX8_lays_6 ?_
  refine lv_icmp_ne (tgt := 69) hx hb dX8_lays_7 (by decide) (fun c_1 => ?_) (fun c_1 => ?_)
  · skip
    have c_1 := b_ne (by omega) (by omega) c_1
    exact (by omega : False).elim
  · skip
    have c_1 := b_eq (by omega) (by omega) c_1
    refine lv_aload_n hx hb dX8_lays_10 rfl (lv_at hl 0 rfl) ?_
    refine g_callVU (nA := 0) hC V hl.1 (m_isOneRing_f l D T pp n o w0 g1 g2 g3 g4 tp w6 w7 w8 w9 w10 w11 w12 w13 w14 g15 w16 g17 w18 w19 g20 w21 g22 g23 g24 w25 w26 w27 g28 g29 w30 g31 g32 g33 fa fo h_a (lf_of h_li h_lt (by omega)) h_1 h_7 (by have q := h_pp; rw [show 7 = n by omega] at q; exact q)) w_1324 w_1326 w_s76 w_9 w_1327 (by decide +kernel) rfl ⟨(Nat.le_of_ble_eq_true rfl), (Nat.le_of_ble_eq_true rfl)⟩ 0 (ci := 8) rfl rfl [0, 1, 2] rfl rfl (Nat.le_of_ble_eq_true rfl) dX8_lays_11 ⟨(Nat.le_of_ble_eq_true rfl), (Nat.le_of_ble_eq_true rfl)⟩ rfl (fun r w1 H locs hQ V => ?_)
    rcases hQ with ⟨rfl, rfl, f_2⟩ | ⟨rfl, rfl, f_3⟩
    · have V : gW D T A s [(o, .inr (8, [.int w0, .ref g1, .ref g2, .ref g3, .ref g4, .int (nI tp), .int w6, .int w7, .int w8, .int w9, .int w10, .int w11, .int w12, .int w13, .int w14, .ref g15, .int w16, .ref g17, .int w18, .int w19, .ref g20, .int w21, .ref g22, .ref g23, .ref g24, .int w25, .int w26, .int w27, .ref g28, .ref g29, .int w30, .ref g31, .ref g32, .ref g33])), (g1, .inl (T 0, 282, .inl fa)), (g28, .inl (T 0, 7, .inl fo)), (g29, .inl (T 0, 7, .inl fp))] H locs := V _ [0, 0, 0] rfl rfl rfl (by decide +kernel) rfl
      show W p l e _ s m args below meth c H locs _ _ _ (F0 m 14 ls [.int (nI 1)])
      refine lv_if_eq (tgt := 33) hx hb dX8_lays_14 (by decide) (fun c => absurd (show (nI 1) = 0 from c) (by decide +kernel)) (fun _ => ?_)
      refine lv_aload_n hx hb dX8_lays_17 rfl (lv_at hl 0 rfl) ?_
      refine g_get hC V (ci := 8) uwX8 0 rfl rfl 30 (by decide) w_942 rfl rfl dX8_lays_18 ?_
      refine lv_iconst (v := (-1)) hx hb dX8_lays_21 (by decide +kernel) ?_
      refine lv_icmp_eq (tgt := 34) hx hb dX8_lays_22 (by decide) (fun c_4 => ?_) (fun c_4 => ?_)
      · skip
        refine lv_aload_n hx hb dX8_lays_34 rfl (lv_at hl 0 rfl) ?_
        refine lv_iload_n hx hb dX8_lays_35 rfl (lv_at hl 3 rfl) ?_
        refine g_put hC V (ci := 8) uwX8 tyX8 tyX8_ok nmX8 0 rfl rfl 30 (by decide) w_942 rfl rfl rfl rfl (Nat.le_of_ble_eq_true rfl) (ws' := [(o, .inr (8, [.int w0, .ref g1, .ref g2, .ref g3, .ref g4, .int (nI tp), .int w6, .int w7, .int w8, .int w9, .int w10, .int w11, .int w12, .int w13, .int w14, .ref g15, .int w16, .ref g17, .int w18, .int w19, .ref g20, .int w21, .ref g22, .ref g23, .ref g24, .int w25, .int w26, .int w27, .ref g28, .ref g29, .int sum, .ref g31, .ref g32, .ref g33])), (g1, .inl (T 0, 282, .inl fa)), (g28, .inl (T 0, 7, .inl fo)), (g29, .inl (T 0, 7, .inl fp))]) rfl dX8_lays_36 (fun H locs V => ?_)
        refine lv_iconst (v := (nI 0)) hx hb dX8_lays_39 (by decide +kernel) ?_
        refine lv_istore (lv' := [(4, .int (nI 0)), (0, .ref o), (1, .int (nI 7)), (2, .int (nI u)), (3, .int sum)]) hx hb dX8_lays_40 hl (by decide) rfl (fun ls hl => ?_)
        have L_5 : ∀ (fu : Nat) (k42 : Nat) (gb42 : Nat → Int32), k42 ≤ 7 → (∀ j, j < k42 → gb42 j = fo j) → 7 - k42 < fu → ∀ (H : Heap) (locs : List Loc) (ls : Array Slot), gW D T A s [(o, .inr (8, [.int w0, .ref g1, .ref g2, .ref g3, .ref g4, .int (nI tp), .int w6, .int w7, .int w8, .int w9, .int w10, .int w11, .int w12, .int w13, .int w14, .ref g15, .int w16, .ref g17, .int w18, .int w19, .ref g20, .int w21, .ref g22, .ref g23, .ref g24, .int w25, .int w26, .int w27, .ref g28, .ref g29, .int sum, .ref g31, .ref g32, .ref g33])), (g1, .inl (T 0, 282, .inl fa)), (g28, .inl (T 0, 7, .inl fo)), (g29, .inl (T 0, 7, .inl gb42))] H locs → lv_has ls 5 [(4, .int (nI k42)), (0, .ref o), (1, .int (nI 7)), (2, .int (nI u)), (3, .int sum)] → W p l e (rmD 2 0 0) s m args below meth c H locs 0 0 (MQ below (gQ D A (q_m_laysf7 T pp so_ n o u sum w0 g1 g2 g3 g4 tp w6 w7 w8 w9 w10 w11 w12 w13 w14 g15 w16 g17 w18 w19 g20 w21 g22 g23 g24 w25 w26 w27 g28 g29 w30 g31 g32 g33 fa fo fp)) args s 0 0 A) (F0 m 42 ls []) := by
          intro fu_42
          induction fu_42 with
          | zero => intro k42 gb42 hk42 hcb hmu; exact absurd hmu (Nat.not_lt_zero _)
          | succ fu_42 ih_42 =>
            intro k42 gb42 hk42 hcb hmu_42 H locs ls V hl
            refine lv_iload hx hb dX8_lays_42 (lv_at hl 0 rfl) ?_
            refine lv_iload_n hx hb dX8_lays_44 rfl (lv_at hl 2 rfl) ?_
            refine lv_icmp_ge (tgt := 68) hx hb dX8_lays_45 (by decide) (fun c_6 => ?_) (fun c_6 => ?_)
            · skip
              have c_6 := b_le (by omega) (by omega) c_6
              exact g_vret (Qr := (q_m_laysf7 T pp so_ n o u sum w0 g1 g2 g3 g4 tp w6 w7 w8 w9 w10 w11 w12 w13 w14 g15 w16 g17 w18 w19 g20 w21 g22 g23 g24 w25 w26 w27 g28 g29 w30 g31 g32 g33 fa fo fp)) hC V ⟨(Nat.le_of_ble_eq_true rfl), (Nat.le_of_ble_eq_true rfl)⟩ ⟨sum, fo, gb42, rfl, rfl, (fun _ _ => rfl), (by rw [show n - 7 = 0 by omega]; show RST n fa (upR n fa so_ pp) _ _; rw [ur_y f_2]; exact (rs_up h_st h_sum (by omega) (Or.inl c_4) (fun i hi => (hcb i (by omega)).trans (h_pp.2 i (by omega)).1)))⟩ dX8_lays_68
            · skip
              have c_6 := b_nle (by omega) (by omega) c_6
              refine lv_aload_n hx hb dX8_lays_48 rfl (lv_at hl 1 rfl) ?_
              refine g_get hC V (ci := 8) uwX8 0 rfl rfl 29 (by decide) w_941 rfl rfl dX8_lays_49 ?_
              refine lv_iload hx hb dX8_lays_52 (lv_at hl 0 rfl) ?_
              refine lv_aload_n hx hb dX8_lays_54 rfl (lv_at hl 1 rfl) ?_
              refine g_get hC V (ci := 8) uwX8 0 rfl rfl 28 (by decide) w_940 rfl rfl dX8_lays_55 ?_
              refine lv_iload hx hb dX8_lays_58 (lv_at hl 0 rfl) ?_
              refine g_iald hC V 2 rfl (vp_in_nI (by omega) (by omega)) (v := (fo k42)) (congrArg _ (nI_clamp (by omega))) dX8_lays_60 ?_
              refine g_iast hC V 3 rfl (vp_in_nI (by omega) (by omega)) (f' := (upd gb42 k42 (fo k42))) (by rw [nI_clamp (by omega)]) (ws' := [(o, .inr (8, [.int w0, .ref g1, .ref g2, .ref g3, .ref g4, .int (nI tp), .int w6, .int w7, .int w8, .int w9, .int w10, .int w11, .int w12, .int w13, .int w14, .ref g15, .int w16, .ref g17, .int w18, .int w19, .ref g20, .int w21, .ref g22, .ref g23, .ref g24, .int w25, .int w26, .int w27, .ref g28, .ref g29, .int sum, .ref g31, .ref g32, .ref g33])), (g1, .inl (T 0, 282, .inl fa)), (g28, .inl (T 0, 7, .inl fo)), (g29, .inl (T 0, 7, .inl (upd gb42 k42 (fo k42))))]) rfl dX8_lays_61 (fun H locs V => ?_)
              refine lv_iinc (v := (nI (k42 + 1))) (lv' := [(4, .int (nI (k42 + 1))), (0, .ref o), (1, .int (nI 7)), (2, .int (nI u)), (3, .int sum)]) hx hb dX8_lays_62 hl (k := 0) rfl (nI_1 _) (by decide) rfl (fun ls hl => ?_)
              refine lv_goto (tgt := 42) hx hb dX8_lays_65 (by decide) ?_
              exact ih_42 (k42 + 1) (upd gb42 k42 (fo k42)) (by omega) (up_one (p := fun j x => x = fo j) hcb rfl) (by omega) _ _ _ V (lv_sub hl [0, 1, 2, 3, 4] rfl)
        exact L_5 _ 0 fp (by omega) (fun i h => absurd h (Nat.not_lt_zero _)) (Nat.lt_succ_self _) _ _ _ V (lv_sub hl [0, 1, 2, 3, 4] rfl)
      · skip
        refine lv_iload_n hx hb dX8_lays_25 rfl (lv_at hl 3 rfl) ?_
        refine lv_aload_n hx hb dX8_lays_26 rfl (lv_at hl 0 rfl) ?_
        refine g_get hC V (ci := 8) uwX8 0 rfl rfl 30 (by decide) w_942 rfl rfl dX8_lays_27 ?_
        refine lv_icmp_lt (tgt := 34) hx hb dX8_lays_30 (by decide) (fun c_7 => ?_) (fun c_7 => ?_)
        · skip
          refine lv_aload_n hx hb dX8_lays_34 rfl (lv_at hl 0 rfl) ?_
          refine lv_iload_n hx hb dX8_lays_35 rfl (lv_at hl 3 rfl) ?_
          refine g_put hC V (ci := 8) uwX8 tyX8 tyX8_ok nmX8 0 rfl rfl 30 (by decide) w_942 rfl rfl rfl rfl (Nat.le_of_ble_eq_true rfl) (ws' := [(o, .inr (8, [.int w0, .ref g1, .ref g2, .ref g3, .ref g4, .int (nI tp), .int w6, .int w7, .int w8, .int w9, .int w10, .int w11, .int w12, .int w13, .int w14, .ref g15, .int w16, .ref g17, .int w18, .int w19, .ref g20, .int w21, .ref g22, .ref g23, .ref g24, .int w25, .int w26, .int w27, .ref g28, .ref g29, .int sum, .ref g31, .ref g32, .ref g33])), (g1, .inl (T 0, 282, .inl fa)), (g28, .inl (T 0, 7, .inl fo)), (g29, .inl (T 0, 7, .inl fp))]) rfl dX8_lays_36 (fun H locs V => ?_)
          refine lv_iconst (v := (nI 0)) hx hb dX8_lays_39 (by decide +kernel) ?_
          refine lv_istore (lv' := [(4, .int (nI 0)), (0, .ref o), (1, .int (nI 7)), (2, .int (nI u)), (3, .int sum)]) hx hb dX8_lays_40 hl (by decide) rfl (fun ls hl => ?_)
          have L_8 : ∀ (fu : Nat) (k42 : Nat) (gb42 : Nat → Int32), k42 ≤ 7 → (∀ j, j < k42 → gb42 j = fo j) → 7 - k42 < fu → ∀ (H : Heap) (locs : List Loc) (ls : Array Slot), gW D T A s [(o, .inr (8, [.int w0, .ref g1, .ref g2, .ref g3, .ref g4, .int (nI tp), .int w6, .int w7, .int w8, .int w9, .int w10, .int w11, .int w12, .int w13, .int w14, .ref g15, .int w16, .ref g17, .int w18, .int w19, .ref g20, .int w21, .ref g22, .ref g23, .ref g24, .int w25, .int w26, .int w27, .ref g28, .ref g29, .int sum, .ref g31, .ref g32, .ref g33])), (g1, .inl (T 0, 282, .inl fa)), (g28, .inl (T 0, 7, .inl fo)), (g29, .inl (T 0, 7, .inl gb42))] H locs → lv_has ls 5 [(4, .int (nI k42)), (0, .ref o), (1, .int (nI 7)), (2, .int (nI u)), (3, .int sum)] → W p l e (rmD 2 0 0) s m args below meth c H locs 0 0 (MQ below (gQ D A (q_m_laysf7 T pp so_ n o u sum w0 g1 g2 g3 g4 tp w6 w7 w8 w9 w10 w11 w12 w13 w14 g15 w16 g17 w18 w19 g20 w21 g22 g23 g24 w25 w26 w27 g28 g29 w30 g31 g32 g33 fa fo fp)) args s 0 0 A) (F0 m 42 ls []) := by
            intro fu_42
            induction fu_42 with
            | zero => intro k42 gb42 hk42 hcb hmu; exact absurd hmu (Nat.not_lt_zero _)
            | succ fu_42 ih_42 =>
              intro k42 gb42 hk42 hcb hmu_42 H locs ls V hl
              refine lv_iload hx hb dX8_lays_42 (lv_at hl 0 rfl) ?_
              refine lv_iload_n hx hb dX8_lays_44 rfl (lv_at hl 2 rfl) ?_
              refine lv_icmp_ge (tgt := 68) hx hb dX8_lays_45 (by decide) (fun c_9 => ?_) (fun c_9 => ?_)
              · skip
                have c_9 := b_le (by omega) (by omega) c_9
                exact g_vret (Qr := (q_m_laysf7 T pp so_ n o u sum w0 g1 g2 g3 g4 tp w6 w7 w8 w9 w10 w11 w12 w13 w14 g15 w16 g17 w18 w19 g20 w21 g22 g23 g24 w25 w26 w27 g28 g29 w30 g31 g32 g33 fa fo fp)) hC V ⟨(Nat.le_of_ble_eq_true rfl), (Nat.le_of_ble_eq_true rfl)⟩ ⟨sum, fo, gb42, rfl, rfl, (fun _ _ => rfl), (by rw [show n - 7 = 0 by omega]; show RST n fa (upR n fa so_ pp) _ _; rw [ur_y f_2]; exact (rs_up h_st h_sum (by omega) (Or.inr c_7) (fun i hi => (hcb i (by omega)).trans (h_pp.2 i (by omega)).1)))⟩ dX8_lays_68
              · skip
                have c_9 := b_nle (by omega) (by omega) c_9
                refine lv_aload_n hx hb dX8_lays_48 rfl (lv_at hl 1 rfl) ?_
                refine g_get hC V (ci := 8) uwX8 0 rfl rfl 29 (by decide) w_941 rfl rfl dX8_lays_49 ?_
                refine lv_iload hx hb dX8_lays_52 (lv_at hl 0 rfl) ?_
                refine lv_aload_n hx hb dX8_lays_54 rfl (lv_at hl 1 rfl) ?_
                refine g_get hC V (ci := 8) uwX8 0 rfl rfl 28 (by decide) w_940 rfl rfl dX8_lays_55 ?_
                refine lv_iload hx hb dX8_lays_58 (lv_at hl 0 rfl) ?_
                refine g_iald hC V 2 rfl (vp_in_nI (by omega) (by omega)) (v := (fo k42)) (congrArg _ (nI_clamp (by omega))) dX8_lays_60 ?_
                refine g_iast hC V 3 rfl (vp_in_nI (by omega) (by omega)) (f' := (upd gb42 k42 (fo k42))) (by rw [nI_clamp (by omega)]) (ws' := [(o, .inr (8, [.int w0, .ref g1, .ref g2, .ref g3, .ref g4, .int (nI tp), .int w6, .int w7, .int w8, .int w9, .int w10, .int w11, .int w12, .int w13, .int w14, .ref g15, .int w16, .ref g17, .int w18, .int w19, .ref g20, .int w21, .ref g22, .ref g23, .ref g24, .int w25, .int w26, .int w27, .ref g28, .ref g29, .int sum, .ref g31, .ref g32, .ref g33])), (g1, .inl (T 0, 282, .inl fa)), (g28, .inl (T 0, 7, .inl fo)), (g29, .inl (T 0, 7, .inl (upd gb42 k42 (fo k42))))]) rfl dX8_lays_61 (fun H locs V => ?_)
                refine lv_iinc (v := (nI (k42 + 1))) (lv' := [(4, .int (nI (k42 + 1))), (0, .ref o), (1, .int (nI 7)), (2, .int (nI u)), (3, .int sum)]) hx hb dX8_lays_62 hl (k := 0) rfl (nI_1 _) (by decide) rfl (fun ls hl => ?_)
                refine lv_goto (tgt := 42) hx hb dX8_lays_65 (by decide) ?_
                exact ih_42 (k42 + 1) (upd gb42 k42 (fo k42)) (by omega) (up_one (p := fun j x => x = fo j) hcb rfl) (by omega) _ _ _ V (lv_sub hl [0, 1, 2, 3, 4] rfl)
          exact L_8 _ 0 fp (by omega) (fun i h => absurd h (Nat.not_lt_zero _)) (Nat.lt_succ_self _) _ _ _ V (lv_sub hl [0, 1, 2, 3, 4] rfl)
        · skip
          exact g_vret (Qr := (q_m_laysf7 T pp so_ n o u sum w0 g1 g2 g3 g4 tp w6 w7 w8 w9 w10 w11 w12 w13 w14 g15 w16 g17 w18 w19 g20 w21 g22 g23 g24 w25 w26 w27 g28 g29 w30 g31 g32 g33 fa fo fp)) hC V ⟨(Nat.le_of_ble_eq_true rfl), (Nat.le_of_ble_eq_true rfl)⟩ ⟨w30, fo, fp, rfl, rfl, (fun _ _ => rfl), (by rw [show n - 7 = 0 by omega]; show RST n fa (upR n fa so_ pp) _ _; rw [ur_y f_2]; exact (rs_no h_st h_sum (by omega) c_4 c_7))⟩ dX8_lays_33
    · have V : gW D T A s [(o, .inr (8, [.int w0, .ref g1, .ref g2, .ref g3, .ref g4, .int (nI tp), .int w6, .int w7, .int w8, .int w9, .int w10, .int w11, .int w12, .int w13, .int w14, .ref g15, .int w16, .ref g17, .int w18, .int w19, .ref g20, .int w21, .ref g22, .ref g23, .ref g24, .int w25, .int w26, .int w27, .ref g28, .ref g29, .int w30, .ref g31, .ref g32, .ref g33])), (g1, .inl (T 0, 282, .inl fa)), (g28, .inl (T 0, 7, .inl fo)), (g29, .inl (T 0, 7, .inl fp))] H locs := V _ [0, 0, 0] rfl rfl rfl (by decide +kernel) rfl
      show W p l e _ s m args below meth c H locs _ _ _ (F0 m 14 ls [.int (nI 0)])
      refine lv_if_eq (tgt := 33) hx hb dX8_lays_14 (by decide) (fun _ => ?_) (fun c => absurd (show (nI 0) = 0 by decide +kernel) c)
      exact g_vret (Qr := (q_m_laysf7 T pp so_ n o u sum w0 g1 g2 g3 g4 tp w6 w7 w8 w9 w10 w11 w12 w13 w14 g15 w16 g17 w18 w19 g20 w21 g22 g23 g24 w25 w26 w27 g28 g29 w30 g31 g32 g33 fa fo fp)) hC V ⟨(Nat.le_of_ble_eq_true rfl), (Nat.le_of_ble_eq_true rfl)⟩ ⟨w30, fo, fp, rfl, rfl, (fun _ _ => rfl), (by rw [show n - 7 = 0 by omega]; show RST n fa (upR n fa so_ pp) _ _; rw [ur_n f_3]; exact h_st)⟩ dX8_lays_33

def q_m_laysf6 (T : Nat → ClassId) (pp : List Nat) (so_ : Option (List Nat)) (n : Nat) (o : Nat) (u : Nat) (sum : Int32) (w0 : Int32) (g1 : Nat) (g2 : Nat) (g3 : Nat) (g4 : Nat) (tp : Nat) (w6 : Int32) (w7 : Int32) (w8 : Int32) (w9 : Int32) (w10 : Int32) (w11 : Int32) (w12 : Int32) (w13 : Int32) (w14 : Int32) (g15 : Nat) (w16 : Int32) (g17 : Nat) (w18 : Int32) (w19 : Int32) (g20 : Nat) (w21 : Int32) (g22 : Nat) (g23 : Nat) (g24 : Nat) (w25 : Int32) (w26 : Int32) (w27 : Int32) (g28 : Nat) (g29 : Nat) (w30 : Int32) (g31 : Nat) (g32 : Nat) (g33 : Nat) (fa : Nat → Int32) (fo : Nat → Int32) (fp : Nat → Int32) : Option Value → va_W → Prop := fun rr ww => (∃ (bs : Int32) (go : Nat → Int32) (gp : Nat → Int32), rr = none ∧ ww = [(o, .inr (8, [.int w0, .ref g1, .ref g2, .ref g3, .ref g4, .int (nI tp), .int w6, .int w7, .int w8, .int w9, .int w10, .int w11, .int w12, .int w13, .int w14, .ref g15, .int w16, .ref g17, .int w18, .int w19, .ref g20, .int w21, .ref g22, .ref g23, .ref g24, .int w25, .int w26, .int w27, .ref g28, .ref g29, .int bs, .ref g31, .ref g32, .ref g33])), (g1, .inl (T 0, 282, .inl fa)), (g28, .inl (T 0, 7, .inl go)), (g29, .inl (T 0, 7, .inl gp))] ∧ (∀ j, j < 6 → go j = fo j) ∧ RST n fa ((gA n (n - 6) pp).foldl (upR n fa) so_) bs gp)
set_option maxHeartbeats 4000000 in
set_option maxRecDepth 100000 in
theorem m_laysf6 (l : Launch) (D : va_G) (T : Nat → ClassId) (pp : List Nat) (so_ : Option (List Nat)) (n : Nat) (o : Nat) (u : Nat) (sum : Int32) (w0 : Int32) (g1 : Nat) (g2 : Nat) (g3 : Nat) (g4 : Nat) (tp : Nat) (w6 : Int32) (w7 : Int32) (w8 : Int32) (w9 : Int32) (w10 : Int32) (w11 : Int32) (w12 : Int32) (w13 : Int32) (w14 : Int32) (g15 : Nat) (w16 : Int32) (g17 : Nat) (w18 : Int32) (w19 : Int32) (g20 : Nat) (w21 : Int32) (g22 : Nat) (g23 : Nat) (g24 : Nat) (w25 : Int32) (w26 : Int32) (w27 : Int32) (g28 : Nat) (g29 : Nat) (w30 : Int32) (g31 : Nat) (g32 : Nat) (g33 : Nat) (fa : Nat → Int32) (fo : Nat → Int32) (fp : Nat → Int32) (h_a : MI n fa) (h_li : LI 6 fo) (h_lt : ∀ j, j < 6 → toF fo j < n) (h_ub : UB 6 u fo) (h_1 : 1 ≤ n) (h_7 : n ≤ 7) (h_kn : 6 ≤ n) (h_pp : PFX n pp 6 fo) (h_us : USR pp u) (h_sum : sum = nI (smL fa 0 pp)) (h_sb : smL fa 0 pp ≤ 60 * 6) (h_st : RST n fa so_ w30 fp) : Ct l yX8_lays cX8_lays 5 none 3 0 0 D T [.ref o, .int (nI 6), .int (nI u), .int sum] [(o, .inr (8, [.int w0, .ref g1, .ref g2, .ref g3, .ref g4, .int (nI tp), .int w6, .int w7, .int w8, .int w9, .int w10, .int w11, .int w12, .int w13, .int w14, .ref g15, .int w16, .ref g17, .int w18, .int w19, .ref g20, .int w21, .ref g22, .ref g23, .ref g24, .int w25, .int w26, .int w27, .ref g28, .ref g29, .int w30, .ref g31, .ref g32, .ref g33])), (g1, .inl (T 0, 282, .inl fa)), (g28, .inl (T 0, 7, .inl fo)), (g29, .inl (T 0, 7, .inl fp))] (q_m_laysf6 T pp so_ n o u sum w0 g1 g2 g3 g4 tp w6 w7 w8 w9 w10 w11 w12 w13 w14 g15 w16 g17 w18 w19 g20 w21 g22 g23 g24 w25 w26 w27 g28 g29 w30 g31 g32 g33 fa fo fp) := by
  refine Ct.of (cc := cX8_lays) (maxL := 5) (ret := none) (by decide) (Nat.le_of_ble_eq_true rfl) ?_
  intro p e s m args below meth c A ls hC hnm V hl
  obtain ⟨hx, hb, hr, hml, hown, hts, hlocks⟩ := id hC
  generalize hH : s.heap = H at V ⊢
  clear hH
  have hl : lv_has ls 5 [(0, .ref o), (1, .int (nI 6)), (2, .int (nI u)), (3, .int sum)] := hl
  generalize hlo : ([] : List Loc) = locs at V ⊢
  clear hlo
  have ms0 := ms_rf h_a
  have hn10 := h_a.1
  have hu := h_ub.1
  refine lv_iload_n hx hb dX8_lays_0 rfl (lv_at hl 1 rfl) ?_
  refine lv_aload_n hx hb dX8_lays_1 rfl (lv_at hl 0 rfl) ?_
  refine g_get hC V (ci := 8) uwX8 0 rfl rfl 1 (by decide) w_913 rfl rfl dX8_lays_2 ?_
  refine lv_iconst (v := (nI 0)) hx hb dX8_lays_5 (by decide +kernel) ?_
  refine g_iald hC V 1 rfl (vp_in_nI (by decide) (by decide)) (v := (nI n)) (by rw [nI_clamp (by decide)]; first | rfl | exact h_a.2.1) dX8_lays_6 ?_
  refine lv_icmp_ne (tgt := 69) hx hb dX8_lays_7 (by decide) (fun c_1 => ?_) (fun c_1 => ?_)
  · skip
    have c_1 := b_ne (by omega) (by omega) c_1
    refine lv_iconst (v := (nI 0)) hx hb dX8_lays_69 (by decide +kernel) ?_
    refine lv_istore (lv' := [(4, .int (nI 0)), (0, .ref o), (1, .int (nI 6)), (2, .int (nI u)), (3, .int sum)]) hx hb dX8_lays_70 hl (by decide) rfl (fun ls hl => ?_)
    have L_2 : ∀ (fu : Nat) (k72 : Nat) (bv : Int32) (f72 : Nat → Int32) (gb72 : Nat → Int32), k72 ≤ n → (∀ j, j < 6 → f72 j = fo j) → RST n fa ((gaK n (n - 7) pp k72).foldl (upR n fa) so_) bv gb72 → n - k72 < fu → ∀ (H : Heap) (locs : List Loc) (ls : Array Slot), gW D T A s [(o, .inr (8, [.int w0, .ref g1, .ref g2, .ref g3, .ref g4, .int (nI tp), .int w6, .int w7, .int w8, .int w9, .int w10, .int w11, .int w12, .int w13, .int w14, .ref g15, .int w16, .ref g17, .int w18, .int w19, .ref g20, .int w21, .ref g22, .ref g23, .ref g24, .int w25, .int w26, .int w27, .ref g28, .ref g29, .int bv, .ref g31, .ref g32, .ref g33])), (g1, .inl (T 0, 282, .inl fa)), (g28, .inl (T 0, 7, .inl f72)), (g29, .inl (T 0, 7, .inl gb72))] H locs → lv_has ls 5 [(4, .int (nI k72)), (0, .ref o), (1, .int (nI 6)), (2, .int (nI u)), (3, .int sum)] → W p l e (rmD 3 0 0) s m args below meth c H locs 0 0 (MQ below (gQ D A (q_m_laysf6 T pp so_ n o u sum w0 g1 g2 g3 g4 tp w6 w7 w8 w9 w10 w11 w12 w13 w14 g15 w16 g17 w18 w19 g20 w21 g22 g23 g24 w25 w26 w27 g28 g29 w30 g31 g32 g33 fa fo fp)) args s 0 0 A) (F0 m 72 ls []) := by
      intro fu_72
      induction fu_72 with
      | zero => intro k72 bv f72 gb72 hk72 hpre hR hmu; exact absurd hmu (Nat.not_lt_zero _)
      | succ fu_72 ih_72 =>
        intro k72 bv f72 gb72 hk72 hpre hR hmu_72 H locs ls V hl
        refine lv_iload hx hb dX8_lays_72 (lv_at hl 0 rfl) ?_
        refine lv_aload_n hx hb dX8_lays_74 rfl (lv_at hl 1 rfl) ?_
        refine g_get hC V (ci := 8) uwX8 0 rfl rfl 1 (by decide) w_913 rfl rfl dX8_lays_75 ?_
        refine lv_iconst (v := (nI 0)) hx hb dX8_lays_78 (by decide +kernel) ?_
        refine g_iald hC V 1 rfl (vp_in_nI (by decide) (by decide)) (v := (nI n)) (by rw [nI_clamp (by decide)]; first | rfl | exact h_a.2.1) dX8_lays_79 ?_
        refine lv_icmp_ge (tgt := 132) hx hb dX8_lays_80 (by decide) (fun c_3 => ?_) (fun c_3 => ?_)
        · skip
          have c_3 := b_le (by omega) (by omega) c_3
          exact g_vret (Qr := (q_m_laysf6 T pp so_ n o u sum w0 g1 g2 g3 g4 tp w6 w7 w8 w9 w10 w11 w12 w13 w14 g15 w16 g17 w18 w19 g20 w21 g22 g23 g24 w25 w26 w27 g28 g29 w30 g31 g32 g33 fa fo fp)) hC V ⟨(Nat.le_of_ble_eq_true rfl), (Nat.le_of_ble_eq_true rfl)⟩ ⟨bv, f72, gb72, rfl, rfl, hpre, (by rw [show n - 6 = (n - 7) + 1 by omega]; have q := hR; rw [show k72 = n by omega] at q; exact q)⟩ dX8_lays_132
        · skip
          have c_3 := b_nle (by omega) (by omega) c_3
          refine lv_iload_n hx hb dX8_lays_83 rfl (lv_at hl 3 rfl) ?_
          refine lv_i2l (v := (nI u).toInt64) hx hb dX8_lays_84 rfl ?_
          refine lv_iload hx hb dX8_lays_85 (lv_at hl 0 rfl) ?_
          refine g_callSU (nA := 2) hC V hl.1 (m_isIn7 l D T u k72 h_ub.1 (by omega)) w_1130 w_1131 w_9 w_1132 (by decide +kernel) rfl ⟨(Nat.le_of_ble_eq_true rfl), (Nat.le_of_ble_eq_true rfl)⟩ [] rfl rfl (Nat.le_of_ble_eq_true rfl) dX8_lays_87 ⟨(Nat.le_of_ble_eq_true rfl), (Nat.le_of_ble_eq_true rfl)⟩ rfl (fun r w1 H locs hQ V => ?_)
          rcases hQ with ⟨rfl, rfl, f_4⟩ | ⟨rfl, rfl, f_5⟩
          · have V : gW D T A s [(o, .inr (8, [.int w0, .ref g1, .ref g2, .ref g3, .ref g4, .int (nI tp), .int w6, .int w7, .int w8, .int w9, .int w10, .int w11, .int w12, .int w13, .int w14, .ref g15, .int w16, .ref g17, .int w18, .int w19, .ref g20, .int w21, .ref g22, .ref g23, .ref g24, .int w25, .int w26, .int w27, .ref g28, .ref g29, .int bv, .ref g31, .ref g32, .ref g33])), (g1, .inl (T 0, 282, .inl fa)), (g28, .inl (T 0, 7, .inl f72)), (g29, .inl (T 0, 7, .inl gb72))] H locs := V _ [] rfl rfl rfl (by decide +kernel) rfl
            show W p l e _ s m args below meth c H locs _ _ _ (F0 m 90 ls [.int (nI 1)])
            refine lv_if_eq (tgt := 96) hx hb dX8_lays_90 (by decide) (fun c => absurd (show (nI 1) = 0 from c) (by decide +kernel)) (fun _ => ?_)
            refine lv_goto (tgt := 126) hx hb dX8_lays_93 (by decide) ?_
            refine lv_iinc (v := (nI (k72 + 1))) (lv' := [(4, .int (nI (k72 + 1))), (0, .ref o), (1, .int (nI 6)), (2, .int (nI u)), (3, .int sum)]) hx hb dX8_lays_126 hl (k := 0) rfl (nI_1 _) (by decide) rfl (fun ls hl => ?_)
            refine lv_goto (tgt := 72) hx hb dX8_lays_129 (by decide) ?_
            exact ih_72 (k72 + 1) bv f72 gb72 (by omega) (by assumption) (by rw [gak_n ((h_us k72 (by omega)).mp f_4)]; exact hR) (by omega) _ _ _ V (lv_sub hl [0, 1, 2, 3, 4] rfl)
          · have V : gW D T A s [(o, .inr (8, [.int w0, .ref g1, .ref g2, .ref g3, .ref g4, .int (nI tp), .int w6, .int w7, .int w8, .int w9, .int w10, .int w11, .int w12, .int w13, .int w14, .ref g15, .int w16, .ref g17, .int w18, .int w19, .ref g20, .int w21, .ref g22, .ref g23, .ref g24, .int w25, .int w26, .int w27, .ref g28, .ref g29, .int bv, .ref g31, .ref g32, .ref g33])), (g1, .inl (T 0, 282, .inl fa)), (g28, .inl (T 0, 7, .inl f72)), (g29, .inl (T 0, 7, .inl gb72))] H locs := V _ [] rfl rfl rfl (by decide +kernel) rfl
            show W p l e _ s m args below meth c H locs _ _ _ (F0 m 90 ls [.int (nI 0)])
            refine lv_if_eq (tgt := 96) hx hb dX8_lays_90 (by decide) (fun _ => ?_) (fun c => absurd (show (nI 0) = 0 by decide +kernel) c)
            refine lv_aload_n hx hb dX8_lays_96 rfl (lv_at hl 1 rfl) ?_
            refine g_get hC V (ci := 8) uwX8 0 rfl rfl 28 (by decide) w_940 rfl rfl dX8_lays_97 ?_
            refine lv_iload_n hx hb dX8_lays_100 rfl (lv_at hl 2 rfl) ?_
            refine lv_iload hx hb dX8_lays_101 (lv_at hl 0 rfl) ?_
            refine g_iast hC V 2 rfl (vp_in_nI (by decide) (by decide)) (f' := (upd f72 6 (nI k72))) (by rw [nI_clamp (by decide)]) (ws' := [(o, .inr (8, [.int w0, .ref g1, .ref g2, .ref g3, .ref g4, .int (nI tp), .int w6, .int w7, .int w8, .int w9, .int w10, .int w11, .int w12, .int w13, .int w14, .ref g15, .int w16, .ref g17, .int w18, .int w19, .ref g20, .int w21, .ref g22, .ref g23, .ref g24, .int w25, .int w26, .int w27, .ref g28, .ref g29, .int bv, .ref g31, .ref g32, .ref g33])), (g1, .inl (T 0, 282, .inl fa)), (g28, .inl (T 0, 7, .inl (upd f72 6 (nI k72)))), (g29, .inl (T 0, 7, .inl gb72))]) rfl dX8_lays_103 (fun H locs V => ?_)
            refine lv_aload_n hx hb dX8_lays_104 rfl (lv_at hl 1 rfl) ?_
            refine lv_iload_n hx hb dX8_lays_105 rfl (lv_at hl 2 rfl) ?_
            refine lv_iconst (v := (nI 1)) hx hb dX8_lays_106 (by decide +kernel) ?_
            refine lv_iadd hx hb dX8_lays_107 ?_
            refine g_vi (y := (nI 7)) (by decide +kernel) ?_
            refine lv_iload_n hx hb dX8_lays_108 rfl (lv_at hl 3 rfl) ?_
            refine lv_iconst (v := (nI 1)) hx hb dX8_lays_109 (by decide +kernel) ?_
            refine lv_iload hx hb dX8_lays_110 (lv_at hl 0 rfl) ?_
            refine lv_ishl hx hb dX8_lays_112 ?_
            refine g_vi (y := (nI (2 ^ k72))) (shl_pow (by omega)) ?_
            refine lv_ior hx hb dX8_lays_113 ?_
            refine g_vi (y := nI (u ||| (2 ^ k72))) (or7 (by omega) (by omega)) ?_
            refine lv_iload_n hx hb dX8_lays_114 rfl (lv_at hl 4 rfl) ?_
            refine lv_aload_n hx hb dX8_lays_115 rfl (lv_at hl 1 rfl) ?_
            refine lv_iload_n hx hb dX8_lays_116 rfl (lv_at hl 2 rfl) ?_
            refine lv_iload hx hb dX8_lays_117 (lv_at hl 0 rfl) ?_
            refine g_callVU (nA := 2) hC V hl.1 (m_offBy_f l D T o 6 k72 w0 g1 g2 g3 g4 tp w6 w7 w8 w9 w10 w11 w12 w13 w14 g15 w16 g17 w18 w19 g20 w21 g22 g23 g24 w25 w26 w27 g28 g29 bv g31 g32 g33 fa (by omega) (by omega)) w_1328 w_1330 w_s77 w_9 w_1331 (by decide +kernel) rfl ⟨(Nat.le_of_ble_eq_true rfl), (Nat.le_of_ble_eq_true rfl)⟩ 0 (ci := 8) rfl rfl [0, 1] rfl rfl (Nat.le_of_ble_eq_true rfl) dX8_lays_119 ⟨(Nat.le_of_ble_eq_true rfl), (Nat.le_of_ble_eq_true rfl)⟩ rfl (fun r w1 H locs hQ V => ?_)
            obtain ⟨z_6, rfl, rfl, f_7⟩ := hQ
            have V : gW D T A s [(o, .inr (8, [.int w0, .ref g1, .ref g2, .ref g3, .ref g4, .int (nI tp), .int w6, .int w7, .int w8, .int w9, .int w10, .int w11, .int w12, .int w13, .int w14, .ref g15, .int w16, .ref g17, .int w18, .int w19, .ref g20, .int w21, .ref g22, .ref g23, .ref g24, .int w25, .int w26, .int w27, .ref g28, .ref g29, .int bv, .ref g31, .ref g32, .ref g33])), (g1, .inl (T 0, 282, .inl fa)), (g28, .inl (T 0, 7, .inl (upd f72 6 (nI k72)))), (g29, .inl (T 0, 7, .inl gb72))] H locs := V _ [0, 0] rfl rfl rfl (by decide +kernel) rfl
            show W p l e _ s m args below meth c H locs _ _ _ (F0 m 122 ls [.int z_6, .int sum, .int (nI (u ||| (2 ^ k72))), .int (nI 7), .ref o])
            refine lv_iadd hx hb dX8_lays_122 ?_
            refine g_callV (wr := []) (nA := 3) hC V hl.1 (m_laysf7 l D T (pp ++ [k72]) ((gaK n (n - 7) pp k72).foldl (upR n fa) so_) n o (u ||| (2 ^ k72)) (sum + z_6) w0 g1 g2 g3 g4 tp w6 w7 w8 w9 w10 w11 w12 w13 w14 g15 w16 g17 w18 w19 g20 w21 g22 g23 g24 w25 w26 w27 g28 g29 bv g31 g32 g33 fa (upd f72 6 (nI k72)) gb72 h_a (li_put (li_ext h_li hpre) (by omega) (ub_free (ub_ext h_ub hpre) (by assumption))) (lt_put h_lt hpre (by omega) h_7) (ub_put (ub_ext h_ub hpre) (by omega)) h_1 h_7 (by omega) (pf_s (pf_e h_pp hpre) (by omega)) (ur_s h_us) (sqz_s h_a (by omega) (by omega) h_sum h_pp.1 f_7) (sqz_b h_a (by omega) (by omega) h_sb h_pp.1) hR) w_1320 w_1322 w_s75 w_9 w_1323 (by decide +kernel) rfl ⟨(Nat.le_of_ble_eq_true rfl), (Nat.le_of_ble_eq_true rfl)⟩ 0 (ci := 8) rfl rfl [0, 1, 2, 3] [] rfl rfl rfl rfl (by decide) (Nat.le_of_ble_eq_true rfl) dX8_lays_123 ⟨(Nat.le_of_ble_eq_true rfl), (Nat.le_of_ble_eq_true rfl)⟩ rfl (fun r w1 H locs hQ V => ?_)
            obtain ⟨bs_8, go_9, gp_10, rfl, rfl, f_11, f_12⟩ := hQ
            have V : gW D T A s [(o, .inr (8, [.int w0, .ref g1, .ref g2, .ref g3, .ref g4, .int (nI tp), .int w6, .int w7, .int w8, .int w9, .int w10, .int w11, .int w12, .int w13, .int w14, .ref g15, .int w16, .ref g17, .int w18, .int w19, .ref g20, .int w21, .ref g22, .ref g23, .ref g24, .int w25, .int w26, .int w27, .ref g28, .ref g29, .int bs_8, .ref g31, .ref g32, .ref g33])), (g1, .inl (T 0, 282, .inl fa)), (g28, .inl (T 0, 7, .inl go_9)), (g29, .inl (T 0, 7, .inl gp_10))] H locs := V
            show W p l e _ s m args below meth c H locs _ _ _ (F0 m 126 ls [])
            have hpre2 : ∀ j, j < 6 → go_9 j = fo j := fun j hj => (f_11 j (by omega)).trans ((up_other (by omega)).trans (hpre j hj))
            refine lv_iinc (v := (nI (k72 + 1))) (lv' := [(4, .int (nI (k72 + 1))), (0, .ref o), (1, .int (nI 6)), (2, .int (nI u)), (3, .int sum)]) hx hb dX8_lays_126 hl (k := 0) rfl (nI_1 _) (by decide) rfl (fun ls hl => ?_)
            refine lv_goto (tgt := 72) hx hb dX8_lays_129 (by decide) ?_
            exact ih_72 (k72 + 1) bs_8 go_9 gp_10 (by omega) (by assumption) (by rw [gak_y (fun r => by have q := (h_us k72 (by omega)).mpr r; rw [f_5] at q; cases q), List.foldl_append]; exact f_12) (by omega) _ _ _ V (lv_sub hl [0, 1, 2, 3, 4] rfl)
    exact L_2 _ 0 w30 fo fp (by omega) (fun _ _ => rfl) h_st (Nat.lt_succ_self _) _ _ _ V (lv_sub hl [0, 1, 2, 3, 4] rfl)
  · skip
    have c_1 := b_eq (by omega) (by omega) c_1
    have hkn : 6 = n := c_1
    refine lv_aload_n hx hb dX8_lays_10 rfl (lv_at hl 0 rfl) ?_
    refine g_callVU (nA := 0) hC V hl.1 (m_isOneRing_f l D T pp n o w0 g1 g2 g3 g4 tp w6 w7 w8 w9 w10 w11 w12 w13 w14 g15 w16 g17 w18 w19 g20 w21 g22 g23 g24 w25 w26 w27 g28 g29 w30 g31 g32 g33 fa fo h_a (lf_of h_li h_lt (by omega)) h_1 h_7 (by have q := h_pp; rw [show 6 = n by omega] at q; exact q)) w_1324 w_1326 w_s76 w_9 w_1327 (by decide +kernel) rfl ⟨(Nat.le_of_ble_eq_true rfl), (Nat.le_of_ble_eq_true rfl)⟩ 0 (ci := 8) rfl rfl [0, 1, 2] rfl rfl (Nat.le_of_ble_eq_true rfl) dX8_lays_11 ⟨(Nat.le_of_ble_eq_true rfl), (Nat.le_of_ble_eq_true rfl)⟩ rfl (fun r w1 H locs hQ V => ?_)
    rcases hQ with ⟨rfl, rfl, f_13⟩ | ⟨rfl, rfl, f_14⟩
    · have V : gW D T A s [(o, .inr (8, [.int w0, .ref g1, .ref g2, .ref g3, .ref g4, .int (nI tp), .int w6, .int w7, .int w8, .int w9, .int w10, .int w11, .int w12, .int w13, .int w14, .ref g15, .int w16, .ref g17, .int w18, .int w19, .ref g20, .int w21, .ref g22, .ref g23, .ref g24, .int w25, .int w26, .int w27, .ref g28, .ref g29, .int w30, .ref g31, .ref g32, .ref g33])), (g1, .inl (T 0, 282, .inl fa)), (g28, .inl (T 0, 7, .inl fo)), (g29, .inl (T 0, 7, .inl fp))] H locs := V _ [0, 0, 0] rfl rfl rfl (by decide +kernel) rfl
      show W p l e _ s m args below meth c H locs _ _ _ (F0 m 14 ls [.int (nI 1)])
      refine lv_if_eq (tgt := 33) hx hb dX8_lays_14 (by decide) (fun c => absurd (show (nI 1) = 0 from c) (by decide +kernel)) (fun _ => ?_)
      refine lv_aload_n hx hb dX8_lays_17 rfl (lv_at hl 0 rfl) ?_
      refine g_get hC V (ci := 8) uwX8 0 rfl rfl 30 (by decide) w_942 rfl rfl dX8_lays_18 ?_
      refine lv_iconst (v := (-1)) hx hb dX8_lays_21 (by decide +kernel) ?_
      refine lv_icmp_eq (tgt := 34) hx hb dX8_lays_22 (by decide) (fun c_15 => ?_) (fun c_15 => ?_)
      · skip
        refine lv_aload_n hx hb dX8_lays_34 rfl (lv_at hl 0 rfl) ?_
        refine lv_iload_n hx hb dX8_lays_35 rfl (lv_at hl 3 rfl) ?_
        refine g_put hC V (ci := 8) uwX8 tyX8 tyX8_ok nmX8 0 rfl rfl 30 (by decide) w_942 rfl rfl rfl rfl (Nat.le_of_ble_eq_true rfl) (ws' := [(o, .inr (8, [.int w0, .ref g1, .ref g2, .ref g3, .ref g4, .int (nI tp), .int w6, .int w7, .int w8, .int w9, .int w10, .int w11, .int w12, .int w13, .int w14, .ref g15, .int w16, .ref g17, .int w18, .int w19, .ref g20, .int w21, .ref g22, .ref g23, .ref g24, .int w25, .int w26, .int w27, .ref g28, .ref g29, .int sum, .ref g31, .ref g32, .ref g33])), (g1, .inl (T 0, 282, .inl fa)), (g28, .inl (T 0, 7, .inl fo)), (g29, .inl (T 0, 7, .inl fp))]) rfl dX8_lays_36 (fun H locs V => ?_)
        refine lv_iconst (v := (nI 0)) hx hb dX8_lays_39 (by decide +kernel) ?_
        refine lv_istore (lv' := [(4, .int (nI 0)), (0, .ref o), (1, .int (nI 6)), (2, .int (nI u)), (3, .int sum)]) hx hb dX8_lays_40 hl (by decide) rfl (fun ls hl => ?_)
        have L_16 : ∀ (fu : Nat) (k42 : Nat) (gb42 : Nat → Int32), k42 ≤ 6 → (∀ j, j < k42 → gb42 j = fo j) → 6 - k42 < fu → ∀ (H : Heap) (locs : List Loc) (ls : Array Slot), gW D T A s [(o, .inr (8, [.int w0, .ref g1, .ref g2, .ref g3, .ref g4, .int (nI tp), .int w6, .int w7, .int w8, .int w9, .int w10, .int w11, .int w12, .int w13, .int w14, .ref g15, .int w16, .ref g17, .int w18, .int w19, .ref g20, .int w21, .ref g22, .ref g23, .ref g24, .int w25, .int w26, .int w27, .ref g28, .ref g29, .int sum, .ref g31, .ref g32, .ref g33])), (g1, .inl (T 0, 282, .inl fa)), (g28, .inl (T 0, 7, .inl fo)), (g29, .inl (T 0, 7, .inl gb42))] H locs → lv_has ls 5 [(4, .int (nI k42)), (0, .ref o), (1, .int (nI 6)), (2, .int (nI u)), (3, .int sum)] → W p l e (rmD 3 0 0) s m args below meth c H locs 0 0 (MQ below (gQ D A (q_m_laysf6 T pp so_ n o u sum w0 g1 g2 g3 g4 tp w6 w7 w8 w9 w10 w11 w12 w13 w14 g15 w16 g17 w18 w19 g20 w21 g22 g23 g24 w25 w26 w27 g28 g29 w30 g31 g32 g33 fa fo fp)) args s 0 0 A) (F0 m 42 ls []) := by
          intro fu_42
          induction fu_42 with
          | zero => intro k42 gb42 hk42 hcb hmu; exact absurd hmu (Nat.not_lt_zero _)
          | succ fu_42 ih_42 =>
            intro k42 gb42 hk42 hcb hmu_42 H locs ls V hl
            refine lv_iload hx hb dX8_lays_42 (lv_at hl 0 rfl) ?_
            refine lv_iload_n hx hb dX8_lays_44 rfl (lv_at hl 2 rfl) ?_
            refine lv_icmp_ge (tgt := 68) hx hb dX8_lays_45 (by decide) (fun c_17 => ?_) (fun c_17 => ?_)
            · skip
              have c_17 := b_le (by omega) (by omega) c_17
              exact g_vret (Qr := (q_m_laysf6 T pp so_ n o u sum w0 g1 g2 g3 g4 tp w6 w7 w8 w9 w10 w11 w12 w13 w14 g15 w16 g17 w18 w19 g20 w21 g22 g23 g24 w25 w26 w27 g28 g29 w30 g31 g32 g33 fa fo fp)) hC V ⟨(Nat.le_of_ble_eq_true rfl), (Nat.le_of_ble_eq_true rfl)⟩ ⟨sum, fo, gb42, rfl, rfl, (fun _ _ => rfl), (by rw [show n - 6 = 0 by omega]; show RST n fa (upR n fa so_ pp) _ _; rw [ur_y f_13]; exact (rs_up h_st h_sum (by omega) (Or.inl c_15) (fun i hi => (hcb i (by omega)).trans (h_pp.2 i (by omega)).1)))⟩ dX8_lays_68
            · skip
              have c_17 := b_nle (by omega) (by omega) c_17
              refine lv_aload_n hx hb dX8_lays_48 rfl (lv_at hl 1 rfl) ?_
              refine g_get hC V (ci := 8) uwX8 0 rfl rfl 29 (by decide) w_941 rfl rfl dX8_lays_49 ?_
              refine lv_iload hx hb dX8_lays_52 (lv_at hl 0 rfl) ?_
              refine lv_aload_n hx hb dX8_lays_54 rfl (lv_at hl 1 rfl) ?_
              refine g_get hC V (ci := 8) uwX8 0 rfl rfl 28 (by decide) w_940 rfl rfl dX8_lays_55 ?_
              refine lv_iload hx hb dX8_lays_58 (lv_at hl 0 rfl) ?_
              refine g_iald hC V 2 rfl (vp_in_nI (by omega) (by omega)) (v := (fo k42)) (congrArg _ (nI_clamp (by omega))) dX8_lays_60 ?_
              refine g_iast hC V 3 rfl (vp_in_nI (by omega) (by omega)) (f' := (upd gb42 k42 (fo k42))) (by rw [nI_clamp (by omega)]) (ws' := [(o, .inr (8, [.int w0, .ref g1, .ref g2, .ref g3, .ref g4, .int (nI tp), .int w6, .int w7, .int w8, .int w9, .int w10, .int w11, .int w12, .int w13, .int w14, .ref g15, .int w16, .ref g17, .int w18, .int w19, .ref g20, .int w21, .ref g22, .ref g23, .ref g24, .int w25, .int w26, .int w27, .ref g28, .ref g29, .int sum, .ref g31, .ref g32, .ref g33])), (g1, .inl (T 0, 282, .inl fa)), (g28, .inl (T 0, 7, .inl fo)), (g29, .inl (T 0, 7, .inl (upd gb42 k42 (fo k42))))]) rfl dX8_lays_61 (fun H locs V => ?_)
              refine lv_iinc (v := (nI (k42 + 1))) (lv' := [(4, .int (nI (k42 + 1))), (0, .ref o), (1, .int (nI 6)), (2, .int (nI u)), (3, .int sum)]) hx hb dX8_lays_62 hl (k := 0) rfl (nI_1 _) (by decide) rfl (fun ls hl => ?_)
              refine lv_goto (tgt := 42) hx hb dX8_lays_65 (by decide) ?_
              exact ih_42 (k42 + 1) (upd gb42 k42 (fo k42)) (by omega) (up_one (p := fun j x => x = fo j) hcb rfl) (by omega) _ _ _ V (lv_sub hl [0, 1, 2, 3, 4] rfl)
        exact L_16 _ 0 fp (by omega) (fun i h => absurd h (Nat.not_lt_zero _)) (Nat.lt_succ_self _) _ _ _ V (lv_sub hl [0, 1, 2, 3, 4] rfl)
      · skip
        refine lv_iload_n hx hb dX8_lays_25 rfl (lv_at hl 3 rfl) ?_
        refine lv_aload_n hx hb dX8_lays_26 rfl (lv_at hl 0 rfl) ?_
        refine g_get hC V (ci := 8) uwX8 0 rfl rfl 30 (by decide) w_942 rfl rfl dX8_lays_27 ?_
        refine lv_icmp_lt (tgt := 34) hx hb dX8_lays_30 (by decide) (fun c_18 => ?_) (fun c_18 => ?_)
        · skip
          refine lv_aload_n hx hb dX8_lays_34 rfl (lv_at hl 0 rfl) ?_
          refine lv_iload_n hx hb dX8_lays_35 rfl (lv_at hl 3 rfl) ?_
          refine g_put hC V (ci := 8) uwX8 tyX8 tyX8_ok nmX8 0 rfl rfl 30 (by decide) w_942 rfl rfl rfl rfl (Nat.le_of_ble_eq_true rfl) (ws' := [(o, .inr (8, [.int w0, .ref g1, .ref g2, .ref g3, .ref g4, .int (nI tp), .int w6, .int w7, .int w8, .int w9, .int w10, .int w11, .int w12, .int w13, .int w14, .ref g15, .int w16, .ref g17, .int w18, .int w19, .ref g20, .int w21, .ref g22, .ref g23, .ref g24, .int w25, .int w26, .int w27, .ref g28, .ref g29, .int sum, .ref g31, .ref g32, .ref g33])), (g1, .inl (T 0, 282, .inl fa)), (g28, .inl (T 0, 7, .inl fo)), (g29, .inl (T 0, 7, .inl fp))]) rfl dX8_lays_36 (fun H locs V => ?_)
          refine lv_iconst (v := (nI 0)) hx hb dX8_lays_39 (by decide +kernel) ?_
          refine lv_istore (lv' := [(4, .int (nI 0)), (0, .ref o), (1, .int (nI 6)), (2, .int (nI u)), (3, .int sum)]) hx hb dX8_lays_40 hl (by decide) rfl (fun ls hl => ?_)
          have L_19 : ∀ (fu : Nat) (k42 : Nat) (gb42 : Nat → Int32), k42 ≤ 6 → (∀ j, j < k42 → gb42 j = fo j) → 6 - k42 < fu → ∀ (H : Heap) (locs : List Loc) (ls : Array Slot), gW D T A s [(o, .inr (8, [.int w0, .ref g1, .ref g2, .ref g3, .ref g4, .int (nI tp), .int w6, .int w7, .int w8, .int w9, .int w10, .int w11, .int w12, .int w13, .int w14, .ref g15, .int w16, .ref g17, .int w18, .int w19, .ref g20, .int w21, .ref g22, .ref g23, .ref g24, .int w25, .int w26, .int w27, .ref g28, .ref g29, .int sum, .ref g31, .ref g32, .ref g33])), (g1, .inl (T 0, 282, .inl fa)), (g28, .inl (T 0, 7, .inl fo)), (g29, .inl (T 0, 7, .inl gb42))] H locs → lv_has ls 5 [(4, .int (nI k42)), (0, .ref o), (1, .int (nI 6)), (2, .int (nI u)), (3, .int sum)] → W p l e (rmD 3 0 0) s m args below meth c H locs 0 0 (MQ below (gQ D A (q_m_laysf6 T pp so_ n o u sum w0 g1 g2 g3 g4 tp w6 w7 w8 w9 w10 w11 w12 w13 w14 g15 w16 g17 w18 w19 g20 w21 g22 g23 g24 w25 w26 w27 g28 g29 w30 g31 g32 g33 fa fo fp)) args s 0 0 A) (F0 m 42 ls []) := by
            intro fu_42
            induction fu_42 with
            | zero => intro k42 gb42 hk42 hcb hmu; exact absurd hmu (Nat.not_lt_zero _)
            | succ fu_42 ih_42 =>
              intro k42 gb42 hk42 hcb hmu_42 H locs ls V hl
              refine lv_iload hx hb dX8_lays_42 (lv_at hl 0 rfl) ?_
              refine lv_iload_n hx hb dX8_lays_44 rfl (lv_at hl 2 rfl) ?_
              refine lv_icmp_ge (tgt := 68) hx hb dX8_lays_45 (by decide) (fun c_20 => ?_) (fun c_20 => ?_)
              · skip
                have c_20 := b_le (by omega) (by omega) c_20
                exact g_vret (Qr := (q_m_laysf6 T pp so_ n o u sum w0 g1 g2 g3 g4 tp w6 w7 w8 w9 w10 w11 w12 w13 w14 g15 w16 g17 w18 w19 g20 w21 g22 g23 g24 w25 w26 w27 g28 g29 w30 g31 g32 g33 fa fo fp)) hC V ⟨(Nat.le_of_ble_eq_true rfl), (Nat.le_of_ble_eq_true rfl)⟩ ⟨sum, fo, gb42, rfl, rfl, (fun _ _ => rfl), (by rw [show n - 6 = 0 by omega]; show RST n fa (upR n fa so_ pp) _ _; rw [ur_y f_13]; exact (rs_up h_st h_sum (by omega) (Or.inr c_18) (fun i hi => (hcb i (by omega)).trans (h_pp.2 i (by omega)).1)))⟩ dX8_lays_68
              · skip
                have c_20 := b_nle (by omega) (by omega) c_20
                refine lv_aload_n hx hb dX8_lays_48 rfl (lv_at hl 1 rfl) ?_
                refine g_get hC V (ci := 8) uwX8 0 rfl rfl 29 (by decide) w_941 rfl rfl dX8_lays_49 ?_
                refine lv_iload hx hb dX8_lays_52 (lv_at hl 0 rfl) ?_
                refine lv_aload_n hx hb dX8_lays_54 rfl (lv_at hl 1 rfl) ?_
                refine g_get hC V (ci := 8) uwX8 0 rfl rfl 28 (by decide) w_940 rfl rfl dX8_lays_55 ?_
                refine lv_iload hx hb dX8_lays_58 (lv_at hl 0 rfl) ?_
                refine g_iald hC V 2 rfl (vp_in_nI (by omega) (by omega)) (v := (fo k42)) (congrArg _ (nI_clamp (by omega))) dX8_lays_60 ?_
                refine g_iast hC V 3 rfl (vp_in_nI (by omega) (by omega)) (f' := (upd gb42 k42 (fo k42))) (by rw [nI_clamp (by omega)]) (ws' := [(o, .inr (8, [.int w0, .ref g1, .ref g2, .ref g3, .ref g4, .int (nI tp), .int w6, .int w7, .int w8, .int w9, .int w10, .int w11, .int w12, .int w13, .int w14, .ref g15, .int w16, .ref g17, .int w18, .int w19, .ref g20, .int w21, .ref g22, .ref g23, .ref g24, .int w25, .int w26, .int w27, .ref g28, .ref g29, .int sum, .ref g31, .ref g32, .ref g33])), (g1, .inl (T 0, 282, .inl fa)), (g28, .inl (T 0, 7, .inl fo)), (g29, .inl (T 0, 7, .inl (upd gb42 k42 (fo k42))))]) rfl dX8_lays_61 (fun H locs V => ?_)
                refine lv_iinc (v := (nI (k42 + 1))) (lv' := [(4, .int (nI (k42 + 1))), (0, .ref o), (1, .int (nI 6)), (2, .int (nI u)), (3, .int sum)]) hx hb dX8_lays_62 hl (k := 0) rfl (nI_1 _) (by decide) rfl (fun ls hl => ?_)
                refine lv_goto (tgt := 42) hx hb dX8_lays_65 (by decide) ?_
                exact ih_42 (k42 + 1) (upd gb42 k42 (fo k42)) (by omega) (up_one (p := fun j x => x = fo j) hcb rfl) (by omega) _ _ _ V (lv_sub hl [0, 1, 2, 3, 4] rfl)
          exact L_19 _ 0 fp (by omega) (fun i h => absurd h (Nat.not_lt_zero _)) (Nat.lt_succ_self _) _ _ _ V (lv_sub hl [0, 1, 2, 3, 4] rfl)
        · skip
          exact g_vret (Qr := (q_m_laysf6 T pp so_ n o u sum w0 g1 g2 g3 g4 tp w6 w7 w8 w9 w10 w11 w12 w13 w14 g15 w16 g17 w18 w19 g20 w21 g22 g23 g24 w25 w26 w27 g28 g29 w30 g31 g32 g33 fa fo fp)) hC V ⟨(Nat.le_of_ble_eq_true rfl), (Nat.le_of_ble_eq_true rfl)⟩ ⟨w30, fo, fp, rfl, rfl, (fun _ _ => rfl), (by rw [show n - 6 = 0 by omega]; show RST n fa (upR n fa so_ pp) _ _; rw [ur_y f_13]; exact (rs_no h_st h_sum (by omega) c_15 c_18))⟩ dX8_lays_33
    · have V : gW D T A s [(o, .inr (8, [.int w0, .ref g1, .ref g2, .ref g3, .ref g4, .int (nI tp), .int w6, .int w7, .int w8, .int w9, .int w10, .int w11, .int w12, .int w13, .int w14, .ref g15, .int w16, .ref g17, .int w18, .int w19, .ref g20, .int w21, .ref g22, .ref g23, .ref g24, .int w25, .int w26, .int w27, .ref g28, .ref g29, .int w30, .ref g31, .ref g32, .ref g33])), (g1, .inl (T 0, 282, .inl fa)), (g28, .inl (T 0, 7, .inl fo)), (g29, .inl (T 0, 7, .inl fp))] H locs := V _ [0, 0, 0] rfl rfl rfl (by decide +kernel) rfl
      show W p l e _ s m args below meth c H locs _ _ _ (F0 m 14 ls [.int (nI 0)])
      refine lv_if_eq (tgt := 33) hx hb dX8_lays_14 (by decide) (fun _ => ?_) (fun c => absurd (show (nI 0) = 0 by decide +kernel) c)
      exact g_vret (Qr := (q_m_laysf6 T pp so_ n o u sum w0 g1 g2 g3 g4 tp w6 w7 w8 w9 w10 w11 w12 w13 w14 g15 w16 g17 w18 w19 g20 w21 g22 g23 g24 w25 w26 w27 g28 g29 w30 g31 g32 g33 fa fo fp)) hC V ⟨(Nat.le_of_ble_eq_true rfl), (Nat.le_of_ble_eq_true rfl)⟩ ⟨w30, fo, fp, rfl, rfl, (fun _ _ => rfl), (by rw [show n - 6 = 0 by omega]; show RST n fa (upR n fa so_ pp) _ _; rw [ur_n f_14]; exact h_st)⟩ dX8_lays_33

def q_m_laysf5 (T : Nat → ClassId) (pp : List Nat) (so_ : Option (List Nat)) (n : Nat) (o : Nat) (u : Nat) (sum : Int32) (w0 : Int32) (g1 : Nat) (g2 : Nat) (g3 : Nat) (g4 : Nat) (tp : Nat) (w6 : Int32) (w7 : Int32) (w8 : Int32) (w9 : Int32) (w10 : Int32) (w11 : Int32) (w12 : Int32) (w13 : Int32) (w14 : Int32) (g15 : Nat) (w16 : Int32) (g17 : Nat) (w18 : Int32) (w19 : Int32) (g20 : Nat) (w21 : Int32) (g22 : Nat) (g23 : Nat) (g24 : Nat) (w25 : Int32) (w26 : Int32) (w27 : Int32) (g28 : Nat) (g29 : Nat) (w30 : Int32) (g31 : Nat) (g32 : Nat) (g33 : Nat) (fa : Nat → Int32) (fo : Nat → Int32) (fp : Nat → Int32) : Option Value → va_W → Prop := fun rr ww => (∃ (bs : Int32) (go : Nat → Int32) (gp : Nat → Int32), rr = none ∧ ww = [(o, .inr (8, [.int w0, .ref g1, .ref g2, .ref g3, .ref g4, .int (nI tp), .int w6, .int w7, .int w8, .int w9, .int w10, .int w11, .int w12, .int w13, .int w14, .ref g15, .int w16, .ref g17, .int w18, .int w19, .ref g20, .int w21, .ref g22, .ref g23, .ref g24, .int w25, .int w26, .int w27, .ref g28, .ref g29, .int bs, .ref g31, .ref g32, .ref g33])), (g1, .inl (T 0, 282, .inl fa)), (g28, .inl (T 0, 7, .inl go)), (g29, .inl (T 0, 7, .inl gp))] ∧ (∀ j, j < 5 → go j = fo j) ∧ RST n fa ((gA n (n - 5) pp).foldl (upR n fa) so_) bs gp)
set_option maxHeartbeats 4000000 in
set_option maxRecDepth 100000 in
theorem m_laysf5 (l : Launch) (D : va_G) (T : Nat → ClassId) (pp : List Nat) (so_ : Option (List Nat)) (n : Nat) (o : Nat) (u : Nat) (sum : Int32) (w0 : Int32) (g1 : Nat) (g2 : Nat) (g3 : Nat) (g4 : Nat) (tp : Nat) (w6 : Int32) (w7 : Int32) (w8 : Int32) (w9 : Int32) (w10 : Int32) (w11 : Int32) (w12 : Int32) (w13 : Int32) (w14 : Int32) (g15 : Nat) (w16 : Int32) (g17 : Nat) (w18 : Int32) (w19 : Int32) (g20 : Nat) (w21 : Int32) (g22 : Nat) (g23 : Nat) (g24 : Nat) (w25 : Int32) (w26 : Int32) (w27 : Int32) (g28 : Nat) (g29 : Nat) (w30 : Int32) (g31 : Nat) (g32 : Nat) (g33 : Nat) (fa : Nat → Int32) (fo : Nat → Int32) (fp : Nat → Int32) (h_a : MI n fa) (h_li : LI 5 fo) (h_lt : ∀ j, j < 5 → toF fo j < n) (h_ub : UB 5 u fo) (h_1 : 1 ≤ n) (h_7 : n ≤ 7) (h_kn : 5 ≤ n) (h_pp : PFX n pp 5 fo) (h_us : USR pp u) (h_sum : sum = nI (smL fa 0 pp)) (h_sb : smL fa 0 pp ≤ 60 * 5) (h_st : RST n fa so_ w30 fp) : Ct l yX8_lays cX8_lays 5 none 4 0 0 D T [.ref o, .int (nI 5), .int (nI u), .int sum] [(o, .inr (8, [.int w0, .ref g1, .ref g2, .ref g3, .ref g4, .int (nI tp), .int w6, .int w7, .int w8, .int w9, .int w10, .int w11, .int w12, .int w13, .int w14, .ref g15, .int w16, .ref g17, .int w18, .int w19, .ref g20, .int w21, .ref g22, .ref g23, .ref g24, .int w25, .int w26, .int w27, .ref g28, .ref g29, .int w30, .ref g31, .ref g32, .ref g33])), (g1, .inl (T 0, 282, .inl fa)), (g28, .inl (T 0, 7, .inl fo)), (g29, .inl (T 0, 7, .inl fp))] (q_m_laysf5 T pp so_ n o u sum w0 g1 g2 g3 g4 tp w6 w7 w8 w9 w10 w11 w12 w13 w14 g15 w16 g17 w18 w19 g20 w21 g22 g23 g24 w25 w26 w27 g28 g29 w30 g31 g32 g33 fa fo fp) := by
  refine Ct.of (cc := cX8_lays) (maxL := 5) (ret := none) (by decide) (Nat.le_of_ble_eq_true rfl) ?_
  intro p e s m args below meth c A ls hC hnm V hl
  obtain ⟨hx, hb, hr, hml, hown, hts, hlocks⟩ := id hC
  generalize hH : s.heap = H at V ⊢
  clear hH
  have hl : lv_has ls 5 [(0, .ref o), (1, .int (nI 5)), (2, .int (nI u)), (3, .int sum)] := hl
  generalize hlo : ([] : List Loc) = locs at V ⊢
  clear hlo
  have ms0 := ms_rf h_a
  have hn10 := h_a.1
  have hu := h_ub.1
  refine lv_iload_n hx hb dX8_lays_0 rfl (lv_at hl 1 rfl) ?_
  refine lv_aload_n hx hb dX8_lays_1 rfl (lv_at hl 0 rfl) ?_
  refine g_get hC V (ci := 8) uwX8 0 rfl rfl 1 (by decide) w_913 rfl rfl dX8_lays_2 ?_
  refine lv_iconst (v := (nI 0)) hx hb dX8_lays_5 (by decide +kernel) ?_
  refine g_iald hC V 1 rfl (vp_in_nI (by decide) (by decide)) (v := (nI n)) (by rw [nI_clamp (by decide)]; first | rfl | exact h_a.2.1) dX8_lays_6 ?_
  refine lv_icmp_ne (tgt := 69) hx hb dX8_lays_7 (by decide) (fun c_1 => ?_) (fun c_1 => ?_)
  · skip
    have c_1 := b_ne (by omega) (by omega) c_1
    refine lv_iconst (v := (nI 0)) hx hb dX8_lays_69 (by decide +kernel) ?_
    refine lv_istore (lv' := [(4, .int (nI 0)), (0, .ref o), (1, .int (nI 5)), (2, .int (nI u)), (3, .int sum)]) hx hb dX8_lays_70 hl (by decide) rfl (fun ls hl => ?_)
    have L_2 : ∀ (fu : Nat) (k72 : Nat) (bv : Int32) (f72 : Nat → Int32) (gb72 : Nat → Int32), k72 ≤ n → (∀ j, j < 5 → f72 j = fo j) → RST n fa ((gaK n (n - 6) pp k72).foldl (upR n fa) so_) bv gb72 → n - k72 < fu → ∀ (H : Heap) (locs : List Loc) (ls : Array Slot), gW D T A s [(o, .inr (8, [.int w0, .ref g1, .ref g2, .ref g3, .ref g4, .int (nI tp), .int w6, .int w7, .int w8, .int w9, .int w10, .int w11, .int w12, .int w13, .int w14, .ref g15, .int w16, .ref g17, .int w18, .int w19, .ref g20, .int w21, .ref g22, .ref g23, .ref g24, .int w25, .int w26, .int w27, .ref g28, .ref g29, .int bv, .ref g31, .ref g32, .ref g33])), (g1, .inl (T 0, 282, .inl fa)), (g28, .inl (T 0, 7, .inl f72)), (g29, .inl (T 0, 7, .inl gb72))] H locs → lv_has ls 5 [(4, .int (nI k72)), (0, .ref o), (1, .int (nI 5)), (2, .int (nI u)), (3, .int sum)] → W p l e (rmD 4 0 0) s m args below meth c H locs 0 0 (MQ below (gQ D A (q_m_laysf5 T pp so_ n o u sum w0 g1 g2 g3 g4 tp w6 w7 w8 w9 w10 w11 w12 w13 w14 g15 w16 g17 w18 w19 g20 w21 g22 g23 g24 w25 w26 w27 g28 g29 w30 g31 g32 g33 fa fo fp)) args s 0 0 A) (F0 m 72 ls []) := by
      intro fu_72
      induction fu_72 with
      | zero => intro k72 bv f72 gb72 hk72 hpre hR hmu; exact absurd hmu (Nat.not_lt_zero _)
      | succ fu_72 ih_72 =>
        intro k72 bv f72 gb72 hk72 hpre hR hmu_72 H locs ls V hl
        refine lv_iload hx hb dX8_lays_72 (lv_at hl 0 rfl) ?_
        refine lv_aload_n hx hb dX8_lays_74 rfl (lv_at hl 1 rfl) ?_
        refine g_get hC V (ci := 8) uwX8 0 rfl rfl 1 (by decide) w_913 rfl rfl dX8_lays_75 ?_
        refine lv_iconst (v := (nI 0)) hx hb dX8_lays_78 (by decide +kernel) ?_
        refine g_iald hC V 1 rfl (vp_in_nI (by decide) (by decide)) (v := (nI n)) (by rw [nI_clamp (by decide)]; first | rfl | exact h_a.2.1) dX8_lays_79 ?_
        refine lv_icmp_ge (tgt := 132) hx hb dX8_lays_80 (by decide) (fun c_3 => ?_) (fun c_3 => ?_)
        · skip
          have c_3 := b_le (by omega) (by omega) c_3
          exact g_vret (Qr := (q_m_laysf5 T pp so_ n o u sum w0 g1 g2 g3 g4 tp w6 w7 w8 w9 w10 w11 w12 w13 w14 g15 w16 g17 w18 w19 g20 w21 g22 g23 g24 w25 w26 w27 g28 g29 w30 g31 g32 g33 fa fo fp)) hC V ⟨(Nat.le_of_ble_eq_true rfl), (Nat.le_of_ble_eq_true rfl)⟩ ⟨bv, f72, gb72, rfl, rfl, hpre, (by rw [show n - 5 = (n - 6) + 1 by omega]; have q := hR; rw [show k72 = n by omega] at q; exact q)⟩ dX8_lays_132
        · skip
          have c_3 := b_nle (by omega) (by omega) c_3
          refine lv_iload_n hx hb dX8_lays_83 rfl (lv_at hl 3 rfl) ?_
          refine lv_i2l (v := (nI u).toInt64) hx hb dX8_lays_84 rfl ?_
          refine lv_iload hx hb dX8_lays_85 (lv_at hl 0 rfl) ?_
          refine g_callSU (nA := 2) hC V hl.1 (m_isIn7 l D T u k72 h_ub.1 (by omega)) w_1130 w_1131 w_9 w_1132 (by decide +kernel) rfl ⟨(Nat.le_of_ble_eq_true rfl), (Nat.le_of_ble_eq_true rfl)⟩ [] rfl rfl (Nat.le_of_ble_eq_true rfl) dX8_lays_87 ⟨(Nat.le_of_ble_eq_true rfl), (Nat.le_of_ble_eq_true rfl)⟩ rfl (fun r w1 H locs hQ V => ?_)
          rcases hQ with ⟨rfl, rfl, f_4⟩ | ⟨rfl, rfl, f_5⟩
          · have V : gW D T A s [(o, .inr (8, [.int w0, .ref g1, .ref g2, .ref g3, .ref g4, .int (nI tp), .int w6, .int w7, .int w8, .int w9, .int w10, .int w11, .int w12, .int w13, .int w14, .ref g15, .int w16, .ref g17, .int w18, .int w19, .ref g20, .int w21, .ref g22, .ref g23, .ref g24, .int w25, .int w26, .int w27, .ref g28, .ref g29, .int bv, .ref g31, .ref g32, .ref g33])), (g1, .inl (T 0, 282, .inl fa)), (g28, .inl (T 0, 7, .inl f72)), (g29, .inl (T 0, 7, .inl gb72))] H locs := V _ [] rfl rfl rfl (by decide +kernel) rfl
            show W p l e _ s m args below meth c H locs _ _ _ (F0 m 90 ls [.int (nI 1)])
            refine lv_if_eq (tgt := 96) hx hb dX8_lays_90 (by decide) (fun c => absurd (show (nI 1) = 0 from c) (by decide +kernel)) (fun _ => ?_)
            refine lv_goto (tgt := 126) hx hb dX8_lays_93 (by decide) ?_
            refine lv_iinc (v := (nI (k72 + 1))) (lv' := [(4, .int (nI (k72 + 1))), (0, .ref o), (1, .int (nI 5)), (2, .int (nI u)), (3, .int sum)]) hx hb dX8_lays_126 hl (k := 0) rfl (nI_1 _) (by decide) rfl (fun ls hl => ?_)
            refine lv_goto (tgt := 72) hx hb dX8_lays_129 (by decide) ?_
            exact ih_72 (k72 + 1) bv f72 gb72 (by omega) (by assumption) (by rw [gak_n ((h_us k72 (by omega)).mp f_4)]; exact hR) (by omega) _ _ _ V (lv_sub hl [0, 1, 2, 3, 4] rfl)
          · have V : gW D T A s [(o, .inr (8, [.int w0, .ref g1, .ref g2, .ref g3, .ref g4, .int (nI tp), .int w6, .int w7, .int w8, .int w9, .int w10, .int w11, .int w12, .int w13, .int w14, .ref g15, .int w16, .ref g17, .int w18, .int w19, .ref g20, .int w21, .ref g22, .ref g23, .ref g24, .int w25, .int w26, .int w27, .ref g28, .ref g29, .int bv, .ref g31, .ref g32, .ref g33])), (g1, .inl (T 0, 282, .inl fa)), (g28, .inl (T 0, 7, .inl f72)), (g29, .inl (T 0, 7, .inl gb72))] H locs := V _ [] rfl rfl rfl (by decide +kernel) rfl
            show W p l e _ s m args below meth c H locs _ _ _ (F0 m 90 ls [.int (nI 0)])
            refine lv_if_eq (tgt := 96) hx hb dX8_lays_90 (by decide) (fun _ => ?_) (fun c => absurd (show (nI 0) = 0 by decide +kernel) c)
            refine lv_aload_n hx hb dX8_lays_96 rfl (lv_at hl 1 rfl) ?_
            refine g_get hC V (ci := 8) uwX8 0 rfl rfl 28 (by decide) w_940 rfl rfl dX8_lays_97 ?_
            refine lv_iload_n hx hb dX8_lays_100 rfl (lv_at hl 2 rfl) ?_
            refine lv_iload hx hb dX8_lays_101 (lv_at hl 0 rfl) ?_
            refine g_iast hC V 2 rfl (vp_in_nI (by decide) (by decide)) (f' := (upd f72 5 (nI k72))) (by rw [nI_clamp (by decide)]) (ws' := [(o, .inr (8, [.int w0, .ref g1, .ref g2, .ref g3, .ref g4, .int (nI tp), .int w6, .int w7, .int w8, .int w9, .int w10, .int w11, .int w12, .int w13, .int w14, .ref g15, .int w16, .ref g17, .int w18, .int w19, .ref g20, .int w21, .ref g22, .ref g23, .ref g24, .int w25, .int w26, .int w27, .ref g28, .ref g29, .int bv, .ref g31, .ref g32, .ref g33])), (g1, .inl (T 0, 282, .inl fa)), (g28, .inl (T 0, 7, .inl (upd f72 5 (nI k72)))), (g29, .inl (T 0, 7, .inl gb72))]) rfl dX8_lays_103 (fun H locs V => ?_)
            refine lv_aload_n hx hb dX8_lays_104 rfl (lv_at hl 1 rfl) ?_
            refine lv_iload_n hx hb dX8_lays_105 rfl (lv_at hl 2 rfl) ?_
            refine lv_iconst (v := (nI 1)) hx hb dX8_lays_106 (by decide +kernel) ?_
            refine lv_iadd hx hb dX8_lays_107 ?_
            refine g_vi (y := (nI 6)) (by decide +kernel) ?_
            refine lv_iload_n hx hb dX8_lays_108 rfl (lv_at hl 3 rfl) ?_
            refine lv_iconst (v := (nI 1)) hx hb dX8_lays_109 (by decide +kernel) ?_
            refine lv_iload hx hb dX8_lays_110 (lv_at hl 0 rfl) ?_
            refine lv_ishl hx hb dX8_lays_112 ?_
            refine g_vi (y := (nI (2 ^ k72))) (shl_pow (by omega)) ?_
            refine lv_ior hx hb dX8_lays_113 ?_
            refine g_vi (y := nI (u ||| (2 ^ k72))) (or7 (by omega) (by omega)) ?_
            refine lv_iload_n hx hb dX8_lays_114 rfl (lv_at hl 4 rfl) ?_
            refine lv_aload_n hx hb dX8_lays_115 rfl (lv_at hl 1 rfl) ?_
            refine lv_iload_n hx hb dX8_lays_116 rfl (lv_at hl 2 rfl) ?_
            refine lv_iload hx hb dX8_lays_117 (lv_at hl 0 rfl) ?_
            refine g_callVU (nA := 2) hC V hl.1 (m_offBy_f l D T o 5 k72 w0 g1 g2 g3 g4 tp w6 w7 w8 w9 w10 w11 w12 w13 w14 g15 w16 g17 w18 w19 g20 w21 g22 g23 g24 w25 w26 w27 g28 g29 bv g31 g32 g33 fa (by omega) (by omega)) w_1328 w_1330 w_s77 w_9 w_1331 (by decide +kernel) rfl ⟨(Nat.le_of_ble_eq_true rfl), (Nat.le_of_ble_eq_true rfl)⟩ 0 (ci := 8) rfl rfl [0, 1] rfl rfl (Nat.le_of_ble_eq_true rfl) dX8_lays_119 ⟨(Nat.le_of_ble_eq_true rfl), (Nat.le_of_ble_eq_true rfl)⟩ rfl (fun r w1 H locs hQ V => ?_)
            obtain ⟨z_6, rfl, rfl, f_7⟩ := hQ
            have V : gW D T A s [(o, .inr (8, [.int w0, .ref g1, .ref g2, .ref g3, .ref g4, .int (nI tp), .int w6, .int w7, .int w8, .int w9, .int w10, .int w11, .int w12, .int w13, .int w14, .ref g15, .int w16, .ref g17, .int w18, .int w19, .ref g20, .int w21, .ref g22, .ref g23, .ref g24, .int w25, .int w26, .int w27, .ref g28, .ref g29, .int bv, .ref g31, .ref g32, .ref g33])), (g1, .inl (T 0, 282, .inl fa)), (g28, .inl (T 0, 7, .inl (upd f72 5 (nI k72)))), (g29, .inl (T 0, 7, .inl gb72))] H locs := V _ [0, 0] rfl rfl rfl (by decide +kernel) rfl
            show W p l e _ s m args below meth c H locs _ _ _ (F0 m 122 ls [.int z_6, .int sum, .int (nI (u ||| (2 ^ k72))), .int (nI 6), .ref o])
            refine lv_iadd hx hb dX8_lays_122 ?_
            refine g_callV (wr := []) (nA := 3) hC V hl.1 (m_laysf6 l D T (pp ++ [k72]) ((gaK n (n - 6) pp k72).foldl (upR n fa) so_) n o (u ||| (2 ^ k72)) (sum + z_6) w0 g1 g2 g3 g4 tp w6 w7 w8 w9 w10 w11 w12 w13 w14 g15 w16 g17 w18 w19 g20 w21 g22 g23 g24 w25 w26 w27 g28 g29 bv g31 g32 g33 fa (upd f72 5 (nI k72)) gb72 h_a (li_put (li_ext h_li hpre) (by omega) (ub_free (ub_ext h_ub hpre) (by assumption))) (lt_put h_lt hpre (by omega) h_7) (ub_put (ub_ext h_ub hpre) (by omega)) h_1 h_7 (by omega) (pf_s (pf_e h_pp hpre) (by omega)) (ur_s h_us) (sqz_s h_a (by omega) (by omega) h_sum h_pp.1 f_7) (sqz_b h_a (by omega) (by omega) h_sb h_pp.1) hR) w_1320 w_1322 w_s75 w_9 w_1323 (by decide +kernel) rfl ⟨(Nat.le_of_ble_eq_true rfl), (Nat.le_of_ble_eq_true rfl)⟩ 0 (ci := 8) rfl rfl [0, 1, 2, 3] [] rfl rfl rfl rfl (by decide) (Nat.le_of_ble_eq_true rfl) dX8_lays_123 ⟨(Nat.le_of_ble_eq_true rfl), (Nat.le_of_ble_eq_true rfl)⟩ rfl (fun r w1 H locs hQ V => ?_)
            obtain ⟨bs_8, go_9, gp_10, rfl, rfl, f_11, f_12⟩ := hQ
            have V : gW D T A s [(o, .inr (8, [.int w0, .ref g1, .ref g2, .ref g3, .ref g4, .int (nI tp), .int w6, .int w7, .int w8, .int w9, .int w10, .int w11, .int w12, .int w13, .int w14, .ref g15, .int w16, .ref g17, .int w18, .int w19, .ref g20, .int w21, .ref g22, .ref g23, .ref g24, .int w25, .int w26, .int w27, .ref g28, .ref g29, .int bs_8, .ref g31, .ref g32, .ref g33])), (g1, .inl (T 0, 282, .inl fa)), (g28, .inl (T 0, 7, .inl go_9)), (g29, .inl (T 0, 7, .inl gp_10))] H locs := V
            show W p l e _ s m args below meth c H locs _ _ _ (F0 m 126 ls [])
            have hpre2 : ∀ j, j < 5 → go_9 j = fo j := fun j hj => (f_11 j (by omega)).trans ((up_other (by omega)).trans (hpre j hj))
            refine lv_iinc (v := (nI (k72 + 1))) (lv' := [(4, .int (nI (k72 + 1))), (0, .ref o), (1, .int (nI 5)), (2, .int (nI u)), (3, .int sum)]) hx hb dX8_lays_126 hl (k := 0) rfl (nI_1 _) (by decide) rfl (fun ls hl => ?_)
            refine lv_goto (tgt := 72) hx hb dX8_lays_129 (by decide) ?_
            exact ih_72 (k72 + 1) bs_8 go_9 gp_10 (by omega) (by assumption) (by rw [gak_y (fun r => by have q := (h_us k72 (by omega)).mpr r; rw [f_5] at q; cases q), List.foldl_append]; exact f_12) (by omega) _ _ _ V (lv_sub hl [0, 1, 2, 3, 4] rfl)
    exact L_2 _ 0 w30 fo fp (by omega) (fun _ _ => rfl) h_st (Nat.lt_succ_self _) _ _ _ V (lv_sub hl [0, 1, 2, 3, 4] rfl)
  · skip
    have c_1 := b_eq (by omega) (by omega) c_1
    have hkn : 5 = n := c_1
    refine lv_aload_n hx hb dX8_lays_10 rfl (lv_at hl 0 rfl) ?_
    refine g_callVU (nA := 0) hC V hl.1 (m_isOneRing_f l D T pp n o w0 g1 g2 g3 g4 tp w6 w7 w8 w9 w10 w11 w12 w13 w14 g15 w16 g17 w18 w19 g20 w21 g22 g23 g24 w25 w26 w27 g28 g29 w30 g31 g32 g33 fa fo h_a (lf_of h_li h_lt (by omega)) h_1 h_7 (by have q := h_pp; rw [show 5 = n by omega] at q; exact q)) w_1324 w_1326 w_s76 w_9 w_1327 (by decide +kernel) rfl ⟨(Nat.le_of_ble_eq_true rfl), (Nat.le_of_ble_eq_true rfl)⟩ 0 (ci := 8) rfl rfl [0, 1, 2] rfl rfl (Nat.le_of_ble_eq_true rfl) dX8_lays_11 ⟨(Nat.le_of_ble_eq_true rfl), (Nat.le_of_ble_eq_true rfl)⟩ rfl (fun r w1 H locs hQ V => ?_)
    rcases hQ with ⟨rfl, rfl, f_13⟩ | ⟨rfl, rfl, f_14⟩
    · have V : gW D T A s [(o, .inr (8, [.int w0, .ref g1, .ref g2, .ref g3, .ref g4, .int (nI tp), .int w6, .int w7, .int w8, .int w9, .int w10, .int w11, .int w12, .int w13, .int w14, .ref g15, .int w16, .ref g17, .int w18, .int w19, .ref g20, .int w21, .ref g22, .ref g23, .ref g24, .int w25, .int w26, .int w27, .ref g28, .ref g29, .int w30, .ref g31, .ref g32, .ref g33])), (g1, .inl (T 0, 282, .inl fa)), (g28, .inl (T 0, 7, .inl fo)), (g29, .inl (T 0, 7, .inl fp))] H locs := V _ [0, 0, 0] rfl rfl rfl (by decide +kernel) rfl
      show W p l e _ s m args below meth c H locs _ _ _ (F0 m 14 ls [.int (nI 1)])
      refine lv_if_eq (tgt := 33) hx hb dX8_lays_14 (by decide) (fun c => absurd (show (nI 1) = 0 from c) (by decide +kernel)) (fun _ => ?_)
      refine lv_aload_n hx hb dX8_lays_17 rfl (lv_at hl 0 rfl) ?_
      refine g_get hC V (ci := 8) uwX8 0 rfl rfl 30 (by decide) w_942 rfl rfl dX8_lays_18 ?_
      refine lv_iconst (v := (-1)) hx hb dX8_lays_21 (by decide +kernel) ?_
      refine lv_icmp_eq (tgt := 34) hx hb dX8_lays_22 (by decide) (fun c_15 => ?_) (fun c_15 => ?_)
      · skip
        refine lv_aload_n hx hb dX8_lays_34 rfl (lv_at hl 0 rfl) ?_
        refine lv_iload_n hx hb dX8_lays_35 rfl (lv_at hl 3 rfl) ?_
        refine g_put hC V (ci := 8) uwX8 tyX8 tyX8_ok nmX8 0 rfl rfl 30 (by decide) w_942 rfl rfl rfl rfl (Nat.le_of_ble_eq_true rfl) (ws' := [(o, .inr (8, [.int w0, .ref g1, .ref g2, .ref g3, .ref g4, .int (nI tp), .int w6, .int w7, .int w8, .int w9, .int w10, .int w11, .int w12, .int w13, .int w14, .ref g15, .int w16, .ref g17, .int w18, .int w19, .ref g20, .int w21, .ref g22, .ref g23, .ref g24, .int w25, .int w26, .int w27, .ref g28, .ref g29, .int sum, .ref g31, .ref g32, .ref g33])), (g1, .inl (T 0, 282, .inl fa)), (g28, .inl (T 0, 7, .inl fo)), (g29, .inl (T 0, 7, .inl fp))]) rfl dX8_lays_36 (fun H locs V => ?_)
        refine lv_iconst (v := (nI 0)) hx hb dX8_lays_39 (by decide +kernel) ?_
        refine lv_istore (lv' := [(4, .int (nI 0)), (0, .ref o), (1, .int (nI 5)), (2, .int (nI u)), (3, .int sum)]) hx hb dX8_lays_40 hl (by decide) rfl (fun ls hl => ?_)
        have L_16 : ∀ (fu : Nat) (k42 : Nat) (gb42 : Nat → Int32), k42 ≤ 5 → (∀ j, j < k42 → gb42 j = fo j) → 5 - k42 < fu → ∀ (H : Heap) (locs : List Loc) (ls : Array Slot), gW D T A s [(o, .inr (8, [.int w0, .ref g1, .ref g2, .ref g3, .ref g4, .int (nI tp), .int w6, .int w7, .int w8, .int w9, .int w10, .int w11, .int w12, .int w13, .int w14, .ref g15, .int w16, .ref g17, .int w18, .int w19, .ref g20, .int w21, .ref g22, .ref g23, .ref g24, .int w25, .int w26, .int w27, .ref g28, .ref g29, .int sum, .ref g31, .ref g32, .ref g33])), (g1, .inl (T 0, 282, .inl fa)), (g28, .inl (T 0, 7, .inl fo)), (g29, .inl (T 0, 7, .inl gb42))] H locs → lv_has ls 5 [(4, .int (nI k42)), (0, .ref o), (1, .int (nI 5)), (2, .int (nI u)), (3, .int sum)] → W p l e (rmD 4 0 0) s m args below meth c H locs 0 0 (MQ below (gQ D A (q_m_laysf5 T pp so_ n o u sum w0 g1 g2 g3 g4 tp w6 w7 w8 w9 w10 w11 w12 w13 w14 g15 w16 g17 w18 w19 g20 w21 g22 g23 g24 w25 w26 w27 g28 g29 w30 g31 g32 g33 fa fo fp)) args s 0 0 A) (F0 m 42 ls []) := by
          intro fu_42
          induction fu_42 with
          | zero => intro k42 gb42 hk42 hcb hmu; exact absurd hmu (Nat.not_lt_zero _)
          | succ fu_42 ih_42 =>
            intro k42 gb42 hk42 hcb hmu_42 H locs ls V hl
            refine lv_iload hx hb dX8_lays_42 (lv_at hl 0 rfl) ?_
            refine lv_iload_n hx hb dX8_lays_44 rfl (lv_at hl 2 rfl) ?_
            refine lv_icmp_ge (tgt := 68) hx hb dX8_lays_45 (by decide) (fun c_17 => ?_) (fun c_17 => ?_)
            · skip
              have c_17 := b_le (by omega) (by omega) c_17
              exact g_vret (Qr := (q_m_laysf5 T pp so_ n o u sum w0 g1 g2 g3 g4 tp w6 w7 w8 w9 w10 w11 w12 w13 w14 g15 w16 g17 w18 w19 g20 w21 g22 g23 g24 w25 w26 w27 g28 g29 w30 g31 g32 g33 fa fo fp)) hC V ⟨(Nat.le_of_ble_eq_true rfl), (Nat.le_of_ble_eq_true rfl)⟩ ⟨sum, fo, gb42, rfl, rfl, (fun _ _ => rfl), (by rw [show n - 5 = 0 by omega]; show RST n fa (upR n fa so_ pp) _ _; rw [ur_y f_13]; exact (rs_up h_st h_sum (by omega) (Or.inl c_15) (fun i hi => (hcb i (by omega)).trans (h_pp.2 i (by omega)).1)))⟩ dX8_lays_68
            · skip
              have c_17 := b_nle (by omega) (by omega) c_17
              refine lv_aload_n hx hb dX8_lays_48 rfl (lv_at hl 1 rfl) ?_
              refine g_get hC V (ci := 8) uwX8 0 rfl rfl 29 (by decide) w_941 rfl rfl dX8_lays_49 ?_
              refine lv_iload hx hb dX8_lays_52 (lv_at hl 0 rfl) ?_
              refine lv_aload_n hx hb dX8_lays_54 rfl (lv_at hl 1 rfl) ?_
              refine g_get hC V (ci := 8) uwX8 0 rfl rfl 28 (by decide) w_940 rfl rfl dX8_lays_55 ?_
              refine lv_iload hx hb dX8_lays_58 (lv_at hl 0 rfl) ?_
              refine g_iald hC V 2 rfl (vp_in_nI (by omega) (by omega)) (v := (fo k42)) (congrArg _ (nI_clamp (by omega))) dX8_lays_60 ?_
              refine g_iast hC V 3 rfl (vp_in_nI (by omega) (by omega)) (f' := (upd gb42 k42 (fo k42))) (by rw [nI_clamp (by omega)]) (ws' := [(o, .inr (8, [.int w0, .ref g1, .ref g2, .ref g3, .ref g4, .int (nI tp), .int w6, .int w7, .int w8, .int w9, .int w10, .int w11, .int w12, .int w13, .int w14, .ref g15, .int w16, .ref g17, .int w18, .int w19, .ref g20, .int w21, .ref g22, .ref g23, .ref g24, .int w25, .int w26, .int w27, .ref g28, .ref g29, .int sum, .ref g31, .ref g32, .ref g33])), (g1, .inl (T 0, 282, .inl fa)), (g28, .inl (T 0, 7, .inl fo)), (g29, .inl (T 0, 7, .inl (upd gb42 k42 (fo k42))))]) rfl dX8_lays_61 (fun H locs V => ?_)
              refine lv_iinc (v := (nI (k42 + 1))) (lv' := [(4, .int (nI (k42 + 1))), (0, .ref o), (1, .int (nI 5)), (2, .int (nI u)), (3, .int sum)]) hx hb dX8_lays_62 hl (k := 0) rfl (nI_1 _) (by decide) rfl (fun ls hl => ?_)
              refine lv_goto (tgt := 42) hx hb dX8_lays_65 (by decide) ?_
              exact ih_42 (k42 + 1) (upd gb42 k42 (fo k42)) (by omega) (up_one (p := fun j x => x = fo j) hcb rfl) (by omega) _ _ _ V (lv_sub hl [0, 1, 2, 3, 4] rfl)
        exact L_16 _ 0 fp (by omega) (fun i h => absurd h (Nat.not_lt_zero _)) (Nat.lt_succ_self _) _ _ _ V (lv_sub hl [0, 1, 2, 3, 4] rfl)
      · skip
        refine lv_iload_n hx hb dX8_lays_25 rfl (lv_at hl 3 rfl) ?_
        refine lv_aload_n hx hb dX8_lays_26 rfl (lv_at hl 0 rfl) ?_
        refine g_get hC V (ci := 8) uwX8 0 rfl rfl 30 (by decide) w_942 rfl rfl dX8_lays_27 ?_
        refine lv_icmp_lt (tgt := 34) hx hb dX8_lays_30 (by decide) (fun c_18 => ?_) (fun c_18 => ?_)
        · skip
          refine lv_aload_n hx hb dX8_lays_34 rfl (lv_at hl 0 rfl) ?_
          refine lv_iload_n hx hb dX8_lays_35 rfl (lv_at hl 3 rfl) ?_
          refine g_put hC V (ci := 8) uwX8 tyX8 tyX8_ok nmX8 0 rfl rfl 30 (by decide) w_942 rfl rfl rfl rfl (Nat.le_of_ble_eq_true rfl) (ws' := [(o, .inr (8, [.int w0, .ref g1, .ref g2, .ref g3, .ref g4, .int (nI tp), .int w6, .int w7, .int w8, .int w9, .int w10, .int w11, .int w12, .int w13, .int w14, .ref g15, .int w16, .ref g17, .int w18, .int w19, .ref g20, .int w21, .ref g22, .ref g23, .ref g24, .int w25, .int w26, .int w27, .ref g28, .ref g29, .int sum, .ref g31, .ref g32, .ref g33])), (g1, .inl (T 0, 282, .inl fa)), (g28, .inl (T 0, 7, .inl fo)), (g29, .inl (T 0, 7, .inl fp))]) rfl dX8_lays_36 (fun H locs V => ?_)
          refine lv_iconst (v := (nI 0)) hx hb dX8_lays_39 (by decide +kernel) ?_
          refine lv_istore (lv' := [(4, .int (nI 0)), (0, .ref o), (1, .int (nI 5)), (2, .int (nI u)), (3, .int sum)]) hx hb dX8_lays_40 hl (by decide) rfl (fun ls hl => ?_)
          have L_19 : ∀ (fu : Nat) (k42 : Nat) (gb42 : Nat → Int32), k42 ≤ 5 → (∀ j, j < k42 → gb42 j = fo j) → 5 - k42 < fu → ∀ (H : Heap) (locs : List Loc) (ls : Array Slot), gW D T A s [(o, .inr (8, [.int w0, .ref g1, .ref g2, .ref g3, .ref g4, .int (nI tp), .int w6, .int w7, .int w8, .int w9, .int w10, .int w11, .int w12, .int w13, .int w14, .ref g15, .int w16, .ref g17, .int w18, .int w19, .ref g20, .int w21, .ref g22, .ref g23, .ref g24, .int w25, .int w26, .int w27, .ref g28, .ref g29, .int sum, .ref g31, .ref g32, .ref g33])), (g1, .inl (T 0, 282, .inl fa)), (g28, .inl (T 0, 7, .inl fo)), (g29, .inl (T 0, 7, .inl gb42))] H locs → lv_has ls 5 [(4, .int (nI k42)), (0, .ref o), (1, .int (nI 5)), (2, .int (nI u)), (3, .int sum)] → W p l e (rmD 4 0 0) s m args below meth c H locs 0 0 (MQ below (gQ D A (q_m_laysf5 T pp so_ n o u sum w0 g1 g2 g3 g4 tp w6 w7 w8 w9 w10 w11 w12 w13 w14 g15 w16 g17 w18 w19 g20 w21 g22 g23 g24 w25 w26 w27 g28 g29 w30 g31 g32 g33 fa fo fp)) args s 0 0 A) (F0 m 42 ls []) := by
            intro fu_42
            induction fu_42 with
            | zero => intro k42 gb42 hk42 hcb hmu; exact absurd hmu (Nat.not_lt_zero _)
            | succ fu_42 ih_42 =>
              intro k42 gb42 hk42 hcb hmu_42 H locs ls V hl
              refine lv_iload hx hb dX8_lays_42 (lv_at hl 0 rfl) ?_
              refine lv_iload_n hx hb dX8_lays_44 rfl (lv_at hl 2 rfl) ?_
              refine lv_icmp_ge (tgt := 68) hx hb dX8_lays_45 (by decide) (fun c_20 => ?_) (fun c_20 => ?_)
              · skip
                have c_20 := b_le (by omega) (by omega) c_20
                exact g_vret (Qr := (q_m_laysf5 T pp so_ n o u sum w0 g1 g2 g3 g4 tp w6 w7 w8 w9 w10 w11 w12 w13 w14 g15 w16 g17 w18 w19 g20 w21 g22 g23 g24 w25 w26 w27 g28 g29 w30 g31 g32 g33 fa fo fp)) hC V ⟨(Nat.le_of_ble_eq_true rfl), (Nat.le_of_ble_eq_true rfl)⟩ ⟨sum, fo, gb42, rfl, rfl, (fun _ _ => rfl), (by rw [show n - 5 = 0 by omega]; show RST n fa (upR n fa so_ pp) _ _; rw [ur_y f_13]; exact (rs_up h_st h_sum (by omega) (Or.inr c_18) (fun i hi => (hcb i (by omega)).trans (h_pp.2 i (by omega)).1)))⟩ dX8_lays_68
              · skip
                have c_20 := b_nle (by omega) (by omega) c_20
                refine lv_aload_n hx hb dX8_lays_48 rfl (lv_at hl 1 rfl) ?_
                refine g_get hC V (ci := 8) uwX8 0 rfl rfl 29 (by decide) w_941 rfl rfl dX8_lays_49 ?_
                refine lv_iload hx hb dX8_lays_52 (lv_at hl 0 rfl) ?_
                refine lv_aload_n hx hb dX8_lays_54 rfl (lv_at hl 1 rfl) ?_
                refine g_get hC V (ci := 8) uwX8 0 rfl rfl 28 (by decide) w_940 rfl rfl dX8_lays_55 ?_
                refine lv_iload hx hb dX8_lays_58 (lv_at hl 0 rfl) ?_
                refine g_iald hC V 2 rfl (vp_in_nI (by omega) (by omega)) (v := (fo k42)) (congrArg _ (nI_clamp (by omega))) dX8_lays_60 ?_
                refine g_iast hC V 3 rfl (vp_in_nI (by omega) (by omega)) (f' := (upd gb42 k42 (fo k42))) (by rw [nI_clamp (by omega)]) (ws' := [(o, .inr (8, [.int w0, .ref g1, .ref g2, .ref g3, .ref g4, .int (nI tp), .int w6, .int w7, .int w8, .int w9, .int w10, .int w11, .int w12, .int w13, .int w14, .ref g15, .int w16, .ref g17, .int w18, .int w19, .ref g20, .int w21, .ref g22, .ref g23, .ref g24, .int w25, .int w26, .int w27, .ref g28, .ref g29, .int sum, .ref g31, .ref g32, .ref g33])), (g1, .inl (T 0, 282, .inl fa)), (g28, .inl (T 0, 7, .inl fo)), (g29, .inl (T 0, 7, .inl (upd gb42 k42 (fo k42))))]) rfl dX8_lays_61 (fun H locs V => ?_)
                refine lv_iinc (v := (nI (k42 + 1))) (lv' := [(4, .int (nI (k42 + 1))), (0, .ref o), (1, .int (nI 5)), (2, .int (nI u)), (3, .int sum)]) hx hb dX8_lays_62 hl (k := 0) rfl (nI_1 _) (by decide) rfl (fun ls hl => ?_)
                refine lv_goto (tgt := 42) hx hb dX8_lays_65 (by decide) ?_
                exact ih_42 (k42 + 1) (upd gb42 k42 (fo k42)) (by omega) (up_one (p := fun j x => x = fo j) hcb rfl) (by omega) _ _ _ V (lv_sub hl [0, 1, 2, 3, 4] rfl)
          exact L_19 _ 0 fp (by omega) (fun i h => absurd h (Nat.not_lt_zero _)) (Nat.lt_succ_self _) _ _ _ V (lv_sub hl [0, 1, 2, 3, 4] rfl)
        · skip
          exact g_vret (Qr := (q_m_laysf5 T pp so_ n o u sum w0 g1 g2 g3 g4 tp w6 w7 w8 w9 w10 w11 w12 w13 w14 g15 w16 g17 w18 w19 g20 w21 g22 g23 g24 w25 w26 w27 g28 g29 w30 g31 g32 g33 fa fo fp)) hC V ⟨(Nat.le_of_ble_eq_true rfl), (Nat.le_of_ble_eq_true rfl)⟩ ⟨w30, fo, fp, rfl, rfl, (fun _ _ => rfl), (by rw [show n - 5 = 0 by omega]; show RST n fa (upR n fa so_ pp) _ _; rw [ur_y f_13]; exact (rs_no h_st h_sum (by omega) c_15 c_18))⟩ dX8_lays_33
    · have V : gW D T A s [(o, .inr (8, [.int w0, .ref g1, .ref g2, .ref g3, .ref g4, .int (nI tp), .int w6, .int w7, .int w8, .int w9, .int w10, .int w11, .int w12, .int w13, .int w14, .ref g15, .int w16, .ref g17, .int w18, .int w19, .ref g20, .int w21, .ref g22, .ref g23, .ref g24, .int w25, .int w26, .int w27, .ref g28, .ref g29, .int w30, .ref g31, .ref g32, .ref g33])), (g1, .inl (T 0, 282, .inl fa)), (g28, .inl (T 0, 7, .inl fo)), (g29, .inl (T 0, 7, .inl fp))] H locs := V _ [0, 0, 0] rfl rfl rfl (by decide +kernel) rfl
      show W p l e _ s m args below meth c H locs _ _ _ (F0 m 14 ls [.int (nI 0)])
      refine lv_if_eq (tgt := 33) hx hb dX8_lays_14 (by decide) (fun _ => ?_) (fun c => absurd (show (nI 0) = 0 by decide +kernel) c)
      exact g_vret (Qr := (q_m_laysf5 T pp so_ n o u sum w0 g1 g2 g3 g4 tp w6 w7 w8 w9 w10 w11 w12 w13 w14 g15 w16 g17 w18 w19 g20 w21 g22 g23 g24 w25 w26 w27 g28 g29 w30 g31 g32 g33 fa fo fp)) hC V ⟨(Nat.le_of_ble_eq_true rfl), (Nat.le_of_ble_eq_true rfl)⟩ ⟨w30, fo, fp, rfl, rfl, (fun _ _ => rfl), (by rw [show n - 5 = 0 by omega]; show RST n fa (upR n fa so_ pp) _ _; rw [ur_n f_14]; exact h_st)⟩ dX8_lays_33

def q_m_laysf4 (T : Nat → ClassId) (pp : List Nat) (so_ : Option (List Nat)) (n : Nat) (o : Nat) (u : Nat) (sum : Int32) (w0 : Int32) (g1 : Nat) (g2 : Nat) (g3 : Nat) (g4 : Nat) (tp : Nat) (w6 : Int32) (w7 : Int32) (w8 : Int32) (w9 : Int32) (w10 : Int32) (w11 : Int32) (w12 : Int32) (w13 : Int32) (w14 : Int32) (g15 : Nat) (w16 : Int32) (g17 : Nat) (w18 : Int32) (w19 : Int32) (g20 : Nat) (w21 : Int32) (g22 : Nat) (g23 : Nat) (g24 : Nat) (w25 : Int32) (w26 : Int32) (w27 : Int32) (g28 : Nat) (g29 : Nat) (w30 : Int32) (g31 : Nat) (g32 : Nat) (g33 : Nat) (fa : Nat → Int32) (fo : Nat → Int32) (fp : Nat → Int32) : Option Value → va_W → Prop := fun rr ww => (∃ (bs : Int32) (go : Nat → Int32) (gp : Nat → Int32), rr = none ∧ ww = [(o, .inr (8, [.int w0, .ref g1, .ref g2, .ref g3, .ref g4, .int (nI tp), .int w6, .int w7, .int w8, .int w9, .int w10, .int w11, .int w12, .int w13, .int w14, .ref g15, .int w16, .ref g17, .int w18, .int w19, .ref g20, .int w21, .ref g22, .ref g23, .ref g24, .int w25, .int w26, .int w27, .ref g28, .ref g29, .int bs, .ref g31, .ref g32, .ref g33])), (g1, .inl (T 0, 282, .inl fa)), (g28, .inl (T 0, 7, .inl go)), (g29, .inl (T 0, 7, .inl gp))] ∧ (∀ j, j < 4 → go j = fo j) ∧ RST n fa ((gA n (n - 4) pp).foldl (upR n fa) so_) bs gp)
set_option maxHeartbeats 4000000 in
set_option maxRecDepth 100000 in
theorem m_laysf4 (l : Launch) (D : va_G) (T : Nat → ClassId) (pp : List Nat) (so_ : Option (List Nat)) (n : Nat) (o : Nat) (u : Nat) (sum : Int32) (w0 : Int32) (g1 : Nat) (g2 : Nat) (g3 : Nat) (g4 : Nat) (tp : Nat) (w6 : Int32) (w7 : Int32) (w8 : Int32) (w9 : Int32) (w10 : Int32) (w11 : Int32) (w12 : Int32) (w13 : Int32) (w14 : Int32) (g15 : Nat) (w16 : Int32) (g17 : Nat) (w18 : Int32) (w19 : Int32) (g20 : Nat) (w21 : Int32) (g22 : Nat) (g23 : Nat) (g24 : Nat) (w25 : Int32) (w26 : Int32) (w27 : Int32) (g28 : Nat) (g29 : Nat) (w30 : Int32) (g31 : Nat) (g32 : Nat) (g33 : Nat) (fa : Nat → Int32) (fo : Nat → Int32) (fp : Nat → Int32) (h_a : MI n fa) (h_li : LI 4 fo) (h_lt : ∀ j, j < 4 → toF fo j < n) (h_ub : UB 4 u fo) (h_1 : 1 ≤ n) (h_7 : n ≤ 7) (h_kn : 4 ≤ n) (h_pp : PFX n pp 4 fo) (h_us : USR pp u) (h_sum : sum = nI (smL fa 0 pp)) (h_sb : smL fa 0 pp ≤ 60 * 4) (h_st : RST n fa so_ w30 fp) : Ct l yX8_lays cX8_lays 5 none 5 0 0 D T [.ref o, .int (nI 4), .int (nI u), .int sum] [(o, .inr (8, [.int w0, .ref g1, .ref g2, .ref g3, .ref g4, .int (nI tp), .int w6, .int w7, .int w8, .int w9, .int w10, .int w11, .int w12, .int w13, .int w14, .ref g15, .int w16, .ref g17, .int w18, .int w19, .ref g20, .int w21, .ref g22, .ref g23, .ref g24, .int w25, .int w26, .int w27, .ref g28, .ref g29, .int w30, .ref g31, .ref g32, .ref g33])), (g1, .inl (T 0, 282, .inl fa)), (g28, .inl (T 0, 7, .inl fo)), (g29, .inl (T 0, 7, .inl fp))] (q_m_laysf4 T pp so_ n o u sum w0 g1 g2 g3 g4 tp w6 w7 w8 w9 w10 w11 w12 w13 w14 g15 w16 g17 w18 w19 g20 w21 g22 g23 g24 w25 w26 w27 g28 g29 w30 g31 g32 g33 fa fo fp) := by
  refine Ct.of (cc := cX8_lays) (maxL := 5) (ret := none) (by decide) (Nat.le_of_ble_eq_true rfl) ?_
  intro p e s m args below meth c A ls hC hnm V hl
  obtain ⟨hx, hb, hr, hml, hown, hts, hlocks⟩ := id hC
  generalize hH : s.heap = H at V ⊢
  clear hH
  have hl : lv_has ls 5 [(0, .ref o), (1, .int (nI 4)), (2, .int (nI u)), (3, .int sum)] := hl
  generalize hlo : ([] : List Loc) = locs at V ⊢
  clear hlo
  have ms0 := ms_rf h_a
  have hn10 := h_a.1
  have hu := h_ub.1
  refine lv_iload_n hx hb dX8_lays_0 rfl (lv_at hl 1 rfl) ?_
  refine lv_aload_n hx hb dX8_lays_1 rfl (lv_at hl 0 rfl) ?_
  refine g_get hC V (ci := 8) uwX8 0 rfl rfl 1 (by decide) w_913 rfl rfl dX8_lays_2 ?_
  refine lv_iconst (v := (nI 0)) hx hb dX8_lays_5 (by decide +kernel) ?_
  refine g_iald hC V 1 rfl (vp_in_nI (by decide) (by decide)) (v := (nI n)) (by rw [nI_clamp (by decide)]; first | rfl | exact h_a.2.1) dX8_lays_6 ?_
  refine lv_icmp_ne (tgt := 69) hx hb dX8_lays_7 (by decide) (fun c_1 => ?_) (fun c_1 => ?_)
  · skip
    have c_1 := b_ne (by omega) (by omega) c_1
    refine lv_iconst (v := (nI 0)) hx hb dX8_lays_69 (by decide +kernel) ?_
    refine lv_istore (lv' := [(4, .int (nI 0)), (0, .ref o), (1, .int (nI 4)), (2, .int (nI u)), (3, .int sum)]) hx hb dX8_lays_70 hl (by decide) rfl (fun ls hl => ?_)
    have L_2 : ∀ (fu : Nat) (k72 : Nat) (bv : Int32) (f72 : Nat → Int32) (gb72 : Nat → Int32), k72 ≤ n → (∀ j, j < 4 → f72 j = fo j) → RST n fa ((gaK n (n - 5) pp k72).foldl (upR n fa) so_) bv gb72 → n - k72 < fu → ∀ (H : Heap) (locs : List Loc) (ls : Array Slot), gW D T A s [(o, .inr (8, [.int w0, .ref g1, .ref g2, .ref g3, .ref g4, .int (nI tp), .int w6, .int w7, .int w8, .int w9, .int w10, .int w11, .int w12, .int w13, .int w14, .ref g15, .int w16, .ref g17, .int w18, .int w19, .ref g20, .int w21, .ref g22, .ref g23, .ref g24, .int w25, .int w26, .int w27, .ref g28, .ref g29, .int bv, .ref g31, .ref g32, .ref g33])), (g1, .inl (T 0, 282, .inl fa)), (g28, .inl (T 0, 7, .inl f72)), (g29, .inl (T 0, 7, .inl gb72))] H locs → lv_has ls 5 [(4, .int (nI k72)), (0, .ref o), (1, .int (nI 4)), (2, .int (nI u)), (3, .int sum)] → W p l e (rmD 5 0 0) s m args below meth c H locs 0 0 (MQ below (gQ D A (q_m_laysf4 T pp so_ n o u sum w0 g1 g2 g3 g4 tp w6 w7 w8 w9 w10 w11 w12 w13 w14 g15 w16 g17 w18 w19 g20 w21 g22 g23 g24 w25 w26 w27 g28 g29 w30 g31 g32 g33 fa fo fp)) args s 0 0 A) (F0 m 72 ls []) := by
      intro fu_72
      induction fu_72 with
      | zero => intro k72 bv f72 gb72 hk72 hpre hR hmu; exact absurd hmu (Nat.not_lt_zero _)
      | succ fu_72 ih_72 =>
        intro k72 bv f72 gb72 hk72 hpre hR hmu_72 H locs ls V hl
        refine lv_iload hx hb dX8_lays_72 (lv_at hl 0 rfl) ?_
        refine lv_aload_n hx hb dX8_lays_74 rfl (lv_at hl 1 rfl) ?_
        refine g_get hC V (ci := 8) uwX8 0 rfl rfl 1 (by decide) w_913 rfl rfl dX8_lays_75 ?_
        refine lv_iconst (v := (nI 0)) hx hb dX8_lays_78 (by decide +kernel) ?_
        refine g_iald hC V 1 rfl (vp_in_nI (by decide) (by decide)) (v := (nI n)) (by rw [nI_clamp (by decide)]; first | rfl | exact h_a.2.1) dX8_lays_79 ?_
        refine lv_icmp_ge (tgt := 132) hx hb dX8_lays_80 (by decide) (fun c_3 => ?_) (fun c_3 => ?_)
        · skip
          have c_3 := b_le (by omega) (by omega) c_3
          exact g_vret (Qr := (q_m_laysf4 T pp so_ n o u sum w0 g1 g2 g3 g4 tp w6 w7 w8 w9 w10 w11 w12 w13 w14 g15 w16 g17 w18 w19 g20 w21 g22 g23 g24 w25 w26 w27 g28 g29 w30 g31 g32 g33 fa fo fp)) hC V ⟨(Nat.le_of_ble_eq_true rfl), (Nat.le_of_ble_eq_true rfl)⟩ ⟨bv, f72, gb72, rfl, rfl, hpre, (by rw [show n - 4 = (n - 5) + 1 by omega]; have q := hR; rw [show k72 = n by omega] at q; exact q)⟩ dX8_lays_132
        · skip
          have c_3 := b_nle (by omega) (by omega) c_3
          refine lv_iload_n hx hb dX8_lays_83 rfl (lv_at hl 3 rfl) ?_
          refine lv_i2l (v := (nI u).toInt64) hx hb dX8_lays_84 rfl ?_
          refine lv_iload hx hb dX8_lays_85 (lv_at hl 0 rfl) ?_
          refine g_callSU (nA := 2) hC V hl.1 (m_isIn7 l D T u k72 h_ub.1 (by omega)) w_1130 w_1131 w_9 w_1132 (by decide +kernel) rfl ⟨(Nat.le_of_ble_eq_true rfl), (Nat.le_of_ble_eq_true rfl)⟩ [] rfl rfl (Nat.le_of_ble_eq_true rfl) dX8_lays_87 ⟨(Nat.le_of_ble_eq_true rfl), (Nat.le_of_ble_eq_true rfl)⟩ rfl (fun r w1 H locs hQ V => ?_)
          rcases hQ with ⟨rfl, rfl, f_4⟩ | ⟨rfl, rfl, f_5⟩
          · have V : gW D T A s [(o, .inr (8, [.int w0, .ref g1, .ref g2, .ref g3, .ref g4, .int (nI tp), .int w6, .int w7, .int w8, .int w9, .int w10, .int w11, .int w12, .int w13, .int w14, .ref g15, .int w16, .ref g17, .int w18, .int w19, .ref g20, .int w21, .ref g22, .ref g23, .ref g24, .int w25, .int w26, .int w27, .ref g28, .ref g29, .int bv, .ref g31, .ref g32, .ref g33])), (g1, .inl (T 0, 282, .inl fa)), (g28, .inl (T 0, 7, .inl f72)), (g29, .inl (T 0, 7, .inl gb72))] H locs := V _ [] rfl rfl rfl (by decide +kernel) rfl
            show W p l e _ s m args below meth c H locs _ _ _ (F0 m 90 ls [.int (nI 1)])
            refine lv_if_eq (tgt := 96) hx hb dX8_lays_90 (by decide) (fun c => absurd (show (nI 1) = 0 from c) (by decide +kernel)) (fun _ => ?_)
            refine lv_goto (tgt := 126) hx hb dX8_lays_93 (by decide) ?_
            refine lv_iinc (v := (nI (k72 + 1))) (lv' := [(4, .int (nI (k72 + 1))), (0, .ref o), (1, .int (nI 4)), (2, .int (nI u)), (3, .int sum)]) hx hb dX8_lays_126 hl (k := 0) rfl (nI_1 _) (by decide) rfl (fun ls hl => ?_)
            refine lv_goto (tgt := 72) hx hb dX8_lays_129 (by decide) ?_
            exact ih_72 (k72 + 1) bv f72 gb72 (by omega) (by assumption) (by rw [gak_n ((h_us k72 (by omega)).mp f_4)]; exact hR) (by omega) _ _ _ V (lv_sub hl [0, 1, 2, 3, 4] rfl)
          · have V : gW D T A s [(o, .inr (8, [.int w0, .ref g1, .ref g2, .ref g3, .ref g4, .int (nI tp), .int w6, .int w7, .int w8, .int w9, .int w10, .int w11, .int w12, .int w13, .int w14, .ref g15, .int w16, .ref g17, .int w18, .int w19, .ref g20, .int w21, .ref g22, .ref g23, .ref g24, .int w25, .int w26, .int w27, .ref g28, .ref g29, .int bv, .ref g31, .ref g32, .ref g33])), (g1, .inl (T 0, 282, .inl fa)), (g28, .inl (T 0, 7, .inl f72)), (g29, .inl (T 0, 7, .inl gb72))] H locs := V _ [] rfl rfl rfl (by decide +kernel) rfl
            show W p l e _ s m args below meth c H locs _ _ _ (F0 m 90 ls [.int (nI 0)])
            refine lv_if_eq (tgt := 96) hx hb dX8_lays_90 (by decide) (fun _ => ?_) (fun c => absurd (show (nI 0) = 0 by decide +kernel) c)
            refine lv_aload_n hx hb dX8_lays_96 rfl (lv_at hl 1 rfl) ?_
            refine g_get hC V (ci := 8) uwX8 0 rfl rfl 28 (by decide) w_940 rfl rfl dX8_lays_97 ?_
            refine lv_iload_n hx hb dX8_lays_100 rfl (lv_at hl 2 rfl) ?_
            refine lv_iload hx hb dX8_lays_101 (lv_at hl 0 rfl) ?_
            refine g_iast hC V 2 rfl (vp_in_nI (by decide) (by decide)) (f' := (upd f72 4 (nI k72))) (by rw [nI_clamp (by decide)]) (ws' := [(o, .inr (8, [.int w0, .ref g1, .ref g2, .ref g3, .ref g4, .int (nI tp), .int w6, .int w7, .int w8, .int w9, .int w10, .int w11, .int w12, .int w13, .int w14, .ref g15, .int w16, .ref g17, .int w18, .int w19, .ref g20, .int w21, .ref g22, .ref g23, .ref g24, .int w25, .int w26, .int w27, .ref g28, .ref g29, .int bv, .ref g31, .ref g32, .ref g33])), (g1, .inl (T 0, 282, .inl fa)), (g28, .inl (T 0, 7, .inl (upd f72 4 (nI k72)))), (g29, .inl (T 0, 7, .inl gb72))]) rfl dX8_lays_103 (fun H locs V => ?_)
            refine lv_aload_n hx hb dX8_lays_104 rfl (lv_at hl 1 rfl) ?_
            refine lv_iload_n hx hb dX8_lays_105 rfl (lv_at hl 2 rfl) ?_
            refine lv_iconst (v := (nI 1)) hx hb dX8_lays_106 (by decide +kernel) ?_
            refine lv_iadd hx hb dX8_lays_107 ?_
            refine g_vi (y := (nI 5)) (by decide +kernel) ?_
            refine lv_iload_n hx hb dX8_lays_108 rfl (lv_at hl 3 rfl) ?_
            refine lv_iconst (v := (nI 1)) hx hb dX8_lays_109 (by decide +kernel) ?_
            refine lv_iload hx hb dX8_lays_110 (lv_at hl 0 rfl) ?_
            refine lv_ishl hx hb dX8_lays_112 ?_
            refine g_vi (y := (nI (2 ^ k72))) (shl_pow (by omega)) ?_
            refine lv_ior hx hb dX8_lays_113 ?_
            refine g_vi (y := nI (u ||| (2 ^ k72))) (or7 (by omega) (by omega)) ?_
            refine lv_iload_n hx hb dX8_lays_114 rfl (lv_at hl 4 rfl) ?_
            refine lv_aload_n hx hb dX8_lays_115 rfl (lv_at hl 1 rfl) ?_
            refine lv_iload_n hx hb dX8_lays_116 rfl (lv_at hl 2 rfl) ?_
            refine lv_iload hx hb dX8_lays_117 (lv_at hl 0 rfl) ?_
            refine g_callVU (nA := 2) hC V hl.1 (m_offBy_f l D T o 4 k72 w0 g1 g2 g3 g4 tp w6 w7 w8 w9 w10 w11 w12 w13 w14 g15 w16 g17 w18 w19 g20 w21 g22 g23 g24 w25 w26 w27 g28 g29 bv g31 g32 g33 fa (by omega) (by omega)) w_1328 w_1330 w_s77 w_9 w_1331 (by decide +kernel) rfl ⟨(Nat.le_of_ble_eq_true rfl), (Nat.le_of_ble_eq_true rfl)⟩ 0 (ci := 8) rfl rfl [0, 1] rfl rfl (Nat.le_of_ble_eq_true rfl) dX8_lays_119 ⟨(Nat.le_of_ble_eq_true rfl), (Nat.le_of_ble_eq_true rfl)⟩ rfl (fun r w1 H locs hQ V => ?_)
            obtain ⟨z_6, rfl, rfl, f_7⟩ := hQ
            have V : gW D T A s [(o, .inr (8, [.int w0, .ref g1, .ref g2, .ref g3, .ref g4, .int (nI tp), .int w6, .int w7, .int w8, .int w9, .int w10, .int w11, .int w12, .int w13, .int w14, .ref g15, .int w16, .ref g17, .int w18, .int w19, .ref g20, .int w21, .ref g22, .ref g23, .ref g24, .int w25, .int w26, .int w27, .ref g28, .ref g29, .int bv, .ref g31, .ref g32, .ref g33])), (g1, .inl (T 0, 282, .inl fa)), (g28, .inl (T 0, 7, .inl (upd f72 4 (nI k72)))), (g29, .inl (T 0, 7, .inl gb72))] H locs := V _ [0, 0] rfl rfl rfl (by decide +kernel) rfl
            show W p l e _ s m args below meth c H locs _ _ _ (F0 m 122 ls [.int z_6, .int sum, .int (nI (u ||| (2 ^ k72))), .int (nI 5), .ref o])
            refine lv_iadd hx hb dX8_lays_122 ?_
            refine g_callV (wr := []) (nA := 3) hC V hl.1 (m_laysf5 l D T (pp ++ [k72]) ((gaK n (n - 5) pp k72).foldl (upR n fa) so_) n o (u ||| (2 ^ k72)) (sum + z_6) w0 g1 g2 g3 g4 tp w6 w7 w8 w9 w10 w11 w12 w13 w14 g15 w16 g17 w18 w19 g20 w21 g22 g23 g24 w25 w26 w27 g28 g29 bv g31 g32 g33 fa (upd f72 4 (nI k72)) gb72 h_a (li_put (li_ext h_li hpre) (by omega) (ub_free (ub_ext h_ub hpre) (by assumption))) (lt_put h_lt hpre (by omega) h_7) (ub_put (ub_ext h_ub hpre) (by omega)) h_1 h_7 (by omega) (pf_s (pf_e h_pp hpre) (by omega)) (ur_s h_us) (sqz_s h_a (by omega) (by omega) h_sum h_pp.1 f_7) (sqz_b h_a (by omega) (by omega) h_sb h_pp.1) hR) w_1320 w_1322 w_s75 w_9 w_1323 (by decide +kernel) rfl ⟨(Nat.le_of_ble_eq_true rfl), (Nat.le_of_ble_eq_true rfl)⟩ 0 (ci := 8) rfl rfl [0, 1, 2, 3] [] rfl rfl rfl rfl (by decide) (Nat.le_of_ble_eq_true rfl) dX8_lays_123 ⟨(Nat.le_of_ble_eq_true rfl), (Nat.le_of_ble_eq_true rfl)⟩ rfl (fun r w1 H locs hQ V => ?_)
            obtain ⟨bs_8, go_9, gp_10, rfl, rfl, f_11, f_12⟩ := hQ
            have V : gW D T A s [(o, .inr (8, [.int w0, .ref g1, .ref g2, .ref g3, .ref g4, .int (nI tp), .int w6, .int w7, .int w8, .int w9, .int w10, .int w11, .int w12, .int w13, .int w14, .ref g15, .int w16, .ref g17, .int w18, .int w19, .ref g20, .int w21, .ref g22, .ref g23, .ref g24, .int w25, .int w26, .int w27, .ref g28, .ref g29, .int bs_8, .ref g31, .ref g32, .ref g33])), (g1, .inl (T 0, 282, .inl fa)), (g28, .inl (T 0, 7, .inl go_9)), (g29, .inl (T 0, 7, .inl gp_10))] H locs := V
            show W p l e _ s m args below meth c H locs _ _ _ (F0 m 126 ls [])
            have hpre2 : ∀ j, j < 4 → go_9 j = fo j := fun j hj => (f_11 j (by omega)).trans ((up_other (by omega)).trans (hpre j hj))
            refine lv_iinc (v := (nI (k72 + 1))) (lv' := [(4, .int (nI (k72 + 1))), (0, .ref o), (1, .int (nI 4)), (2, .int (nI u)), (3, .int sum)]) hx hb dX8_lays_126 hl (k := 0) rfl (nI_1 _) (by decide) rfl (fun ls hl => ?_)
            refine lv_goto (tgt := 72) hx hb dX8_lays_129 (by decide) ?_
            exact ih_72 (k72 + 1) bs_8 go_9 gp_10 (by omega) (by assumption) (by rw [gak_y (fun r => by have q := (h_us k72 (by omega)).mpr r; rw [f_5] at q; cases q), List.foldl_append]; exact f_12) (by omega) _ _ _ V (lv_sub hl [0, 1, 2, 3, 4] rfl)
    exact L_2 _ 0 w30 fo fp (by omega) (fun _ _ => rfl) h_st (Nat.lt_succ_self _) _ _ _ V (lv_sub hl [0, 1, 2, 3, 4] rfl)
  · skip
    have c_1 := b_eq (by omega) (by omega) c_1
    have hkn : 4 = n := c_1
    refine lv_aload_n hx hb dX8_lays_10 rfl (lv_at hl 0 rfl) ?_
    refine g_callVU (nA := 0) hC V hl.1 (m_isOneRing_f l D T pp n o w0 g1 g2 g3 g4 tp w6 w7 w8 w9 w10 w11 w12 w13 w14 g15 w16 g17 w18 w19 g20 w21 g22 g23 g24 w25 w26 w27 g28 g29 w30 g31 g32 g33 fa fo h_a (lf_of h_li h_lt (by omega)) h_1 h_7 (by have q := h_pp; rw [show 4 = n by omega] at q; exact q)) w_1324 w_1326 w_s76 w_9 w_1327 (by decide +kernel) rfl ⟨(Nat.le_of_ble_eq_true rfl), (Nat.le_of_ble_eq_true rfl)⟩ 0 (ci := 8) rfl rfl [0, 1, 2] rfl rfl (Nat.le_of_ble_eq_true rfl) dX8_lays_11 ⟨(Nat.le_of_ble_eq_true rfl), (Nat.le_of_ble_eq_true rfl)⟩ rfl (fun r w1 H locs hQ V => ?_)
    rcases hQ with ⟨rfl, rfl, f_13⟩ | ⟨rfl, rfl, f_14⟩
    · have V : gW D T A s [(o, .inr (8, [.int w0, .ref g1, .ref g2, .ref g3, .ref g4, .int (nI tp), .int w6, .int w7, .int w8, .int w9, .int w10, .int w11, .int w12, .int w13, .int w14, .ref g15, .int w16, .ref g17, .int w18, .int w19, .ref g20, .int w21, .ref g22, .ref g23, .ref g24, .int w25, .int w26, .int w27, .ref g28, .ref g29, .int w30, .ref g31, .ref g32, .ref g33])), (g1, .inl (T 0, 282, .inl fa)), (g28, .inl (T 0, 7, .inl fo)), (g29, .inl (T 0, 7, .inl fp))] H locs := V _ [0, 0, 0] rfl rfl rfl (by decide +kernel) rfl
      show W p l e _ s m args below meth c H locs _ _ _ (F0 m 14 ls [.int (nI 1)])
      refine lv_if_eq (tgt := 33) hx hb dX8_lays_14 (by decide) (fun c => absurd (show (nI 1) = 0 from c) (by decide +kernel)) (fun _ => ?_)
      refine lv_aload_n hx hb dX8_lays_17 rfl (lv_at hl 0 rfl) ?_
      refine g_get hC V (ci := 8) uwX8 0 rfl rfl 30 (by decide) w_942 rfl rfl dX8_lays_18 ?_
      refine lv_iconst (v := (-1)) hx hb dX8_lays_21 (by decide +kernel) ?_
      refine lv_icmp_eq (tgt := 34) hx hb dX8_lays_22 (by decide) (fun c_15 => ?_) (fun c_15 => ?_)
      · skip
        refine lv_aload_n hx hb dX8_lays_34 rfl (lv_at hl 0 rfl) ?_
        refine lv_iload_n hx hb dX8_lays_35 rfl (lv_at hl 3 rfl) ?_
        refine g_put hC V (ci := 8) uwX8 tyX8 tyX8_ok nmX8 0 rfl rfl 30 (by decide) w_942 rfl rfl rfl rfl (Nat.le_of_ble_eq_true rfl) (ws' := [(o, .inr (8, [.int w0, .ref g1, .ref g2, .ref g3, .ref g4, .int (nI tp), .int w6, .int w7, .int w8, .int w9, .int w10, .int w11, .int w12, .int w13, .int w14, .ref g15, .int w16, .ref g17, .int w18, .int w19, .ref g20, .int w21, .ref g22, .ref g23, .ref g24, .int w25, .int w26, .int w27, .ref g28, .ref g29, .int sum, .ref g31, .ref g32, .ref g33])), (g1, .inl (T 0, 282, .inl fa)), (g28, .inl (T 0, 7, .inl fo)), (g29, .inl (T 0, 7, .inl fp))]) rfl dX8_lays_36 (fun H locs V => ?_)
        refine lv_iconst (v := (nI 0)) hx hb dX8_lays_39 (by decide +kernel) ?_
        refine lv_istore (lv' := [(4, .int (nI 0)), (0, .ref o), (1, .int (nI 4)), (2, .int (nI u)), (3, .int sum)]) hx hb dX8_lays_40 hl (by decide) rfl (fun ls hl => ?_)
        have L_16 : ∀ (fu : Nat) (k42 : Nat) (gb42 : Nat → Int32), k42 ≤ 4 → (∀ j, j < k42 → gb42 j = fo j) → 4 - k42 < fu → ∀ (H : Heap) (locs : List Loc) (ls : Array Slot), gW D T A s [(o, .inr (8, [.int w0, .ref g1, .ref g2, .ref g3, .ref g4, .int (nI tp), .int w6, .int w7, .int w8, .int w9, .int w10, .int w11, .int w12, .int w13, .int w14, .ref g15, .int w16, .ref g17, .int w18, .int w19, .ref g20, .int w21, .ref g22, .ref g23, .ref g24, .int w25, .int w26, .int w27, .ref g28, .ref g29, .int sum, .ref g31, .ref g32, .ref g33])), (g1, .inl (T 0, 282, .inl fa)), (g28, .inl (T 0, 7, .inl fo)), (g29, .inl (T 0, 7, .inl gb42))] H locs → lv_has ls 5 [(4, .int (nI k42)), (0, .ref o), (1, .int (nI 4)), (2, .int (nI u)), (3, .int sum)] → W p l e (rmD 5 0 0) s m args below meth c H locs 0 0 (MQ below (gQ D A (q_m_laysf4 T pp so_ n o u sum w0 g1 g2 g3 g4 tp w6 w7 w8 w9 w10 w11 w12 w13 w14 g15 w16 g17 w18 w19 g20 w21 g22 g23 g24 w25 w26 w27 g28 g29 w30 g31 g32 g33 fa fo fp)) args s 0 0 A) (F0 m 42 ls []) := by
          intro fu_42
          induction fu_42 with
          | zero => intro k42 gb42 hk42 hcb hmu; exact absurd hmu (Nat.not_lt_zero _)
          | succ fu_42 ih_42 =>
            intro k42 gb42 hk42 hcb hmu_42 H locs ls V hl
            refine lv_iload hx hb dX8_lays_42 (lv_at hl 0 rfl) ?_
            refine lv_iload_n hx hb dX8_lays_44 rfl (lv_at hl 2 rfl) ?_
            refine lv_icmp_ge (tgt := 68) hx hb dX8_lays_45 (by decide) (fun c_17 => ?_) (fun c_17 => ?_)
            · skip
              have c_17 := b_le (by omega) (by omega) c_17
              exact g_vret (Qr := (q_m_laysf4 T pp so_ n o u sum w0 g1 g2 g3 g4 tp w6 w7 w8 w9 w10 w11 w12 w13 w14 g15 w16 g17 w18 w19 g20 w21 g22 g23 g24 w25 w26 w27 g28 g29 w30 g31 g32 g33 fa fo fp)) hC V ⟨(Nat.le_of_ble_eq_true rfl), (Nat.le_of_ble_eq_true rfl)⟩ ⟨sum, fo, gb42, rfl, rfl, (fun _ _ => rfl), (by rw [show n - 4 = 0 by omega]; show RST n fa (upR n fa so_ pp) _ _; rw [ur_y f_13]; exact (rs_up h_st h_sum (by omega) (Or.inl c_15) (fun i hi => (hcb i (by omega)).trans (h_pp.2 i (by omega)).1)))⟩ dX8_lays_68
            · skip
              have c_17 := b_nle (by omega) (by omega) c_17
              refine lv_aload_n hx hb dX8_lays_48 rfl (lv_at hl 1 rfl) ?_
              refine g_get hC V (ci := 8) uwX8 0 rfl rfl 29 (by decide) w_941 rfl rfl dX8_lays_49 ?_
              refine lv_iload hx hb dX8_lays_52 (lv_at hl 0 rfl) ?_
              refine lv_aload_n hx hb dX8_lays_54 rfl (lv_at hl 1 rfl) ?_
              refine g_get hC V (ci := 8) uwX8 0 rfl rfl 28 (by decide) w_940 rfl rfl dX8_lays_55 ?_
              refine lv_iload hx hb dX8_lays_58 (lv_at hl 0 rfl) ?_
              refine g_iald hC V 2 rfl (vp_in_nI (by omega) (by omega)) (v := (fo k42)) (congrArg _ (nI_clamp (by omega))) dX8_lays_60 ?_
              refine g_iast hC V 3 rfl (vp_in_nI (by omega) (by omega)) (f' := (upd gb42 k42 (fo k42))) (by rw [nI_clamp (by omega)]) (ws' := [(o, .inr (8, [.int w0, .ref g1, .ref g2, .ref g3, .ref g4, .int (nI tp), .int w6, .int w7, .int w8, .int w9, .int w10, .int w11, .int w12, .int w13, .int w14, .ref g15, .int w16, .ref g17, .int w18, .int w19, .ref g20, .int w21, .ref g22, .ref g23, .ref g24, .int w25, .int w26, .int w27, .ref g28, .ref g29, .int sum, .ref g31, .ref g32, .ref g33])), (g1, .inl (T 0, 282, .inl fa)), (g28, .inl (T 0, 7, .inl fo)), (g29, .inl (T 0, 7, .inl (upd gb42 k42 (fo k42))))]) rfl dX8_lays_61 (fun H locs V => ?_)
              refine lv_iinc (v := (nI (k42 + 1))) (lv' := [(4, .int (nI (k42 + 1))), (0, .ref o), (1, .int (nI 4)), (2, .int (nI u)), (3, .int sum)]) hx hb dX8_lays_62 hl (k := 0) rfl (nI_1 _) (by decide) rfl (fun ls hl => ?_)
              refine lv_goto (tgt := 42) hx hb dX8_lays_65 (by decide) ?_
              exact ih_42 (k42 + 1) (upd gb42 k42 (fo k42)) (by omega) (up_one (p := fun j x => x = fo j) hcb rfl) (by omega) _ _ _ V (lv_sub hl [0, 1, 2, 3, 4] rfl)
        exact L_16 _ 0 fp (by omega) (fun i h => absurd h (Nat.not_lt_zero _)) (Nat.lt_succ_self _) _ _ _ V (lv_sub hl [0, 1, 2, 3, 4] rfl)
      · skip
        refine lv_iload_n hx hb dX8_lays_25 rfl (lv_at hl 3 rfl) ?_
        refine lv_aload_n hx hb dX8_lays_26 rfl (lv_at hl 0 rfl) ?_
        refine g_get hC V (ci := 8) uwX8 0 rfl rfl 30 (by decide) w_942 rfl rfl dX8_lays_27 ?_
        refine lv_icmp_lt (tgt := 34) hx hb dX8_lays_30 (by decide) (fun c_18 => ?_) (fun c_18 => ?_)
        · skip
          refine lv_aload_n hx hb dX8_lays_34 rfl (lv_at hl 0 rfl) ?_
          refine lv_iload_n hx hb dX8_lays_35 rfl (lv_at hl 3 rfl) ?_
          refine g_put hC V (ci := 8) uwX8 tyX8 tyX8_ok nmX8 0 rfl rfl 30 (by decide) w_942 rfl rfl rfl rfl (Nat.le_of_ble_eq_true rfl) (ws' := [(o, .inr (8, [.int w0, .ref g1, .ref g2, .ref g3, .ref g4, .int (nI tp), .int w6, .int w7, .int w8, .int w9, .int w10, .int w11, .int w12, .int w13, .int w14, .ref g15, .int w16, .ref g17, .int w18, .int w19, .ref g20, .int w21, .ref g22, .ref g23, .ref g24, .int w25, .int w26, .int w27, .ref g28, .ref g29, .int sum, .ref g31, .ref g32, .ref g33])), (g1, .inl (T 0, 282, .inl fa)), (g28, .inl (T 0, 7, .inl fo)), (g29, .inl (T 0, 7, .inl fp))]) rfl dX8_lays_36 (fun H locs V => ?_)
          refine lv_iconst (v := (nI 0)) hx hb dX8_lays_39 (by decide +kernel) ?_
          refine lv_istore (lv' := [(4, .int (nI 0)), (0, .ref o), (1, .int (nI 4)), (2, .int (nI u)), (3, .int sum)]) hx hb dX8_lays_40 hl (by decide) rfl (fun ls hl => ?_)
          have L_19 : ∀ (fu : Nat) (k42 : Nat) (gb42 : Nat → Int32), k42 ≤ 4 → (∀ j, j < k42 → gb42 j = fo j) → 4 - k42 < fu → ∀ (H : Heap) (locs : List Loc) (ls : Array Slot), gW D T A s [(o, .inr (8, [.int w0, .ref g1, .ref g2, .ref g3, .ref g4, .int (nI tp), .int w6, .int w7, .int w8, .int w9, .int w10, .int w11, .int w12, .int w13, .int w14, .ref g15, .int w16, .ref g17, .int w18, .int w19, .ref g20, .int w21, .ref g22, .ref g23, .ref g24, .int w25, .int w26, .int w27, .ref g28, .ref g29, .int sum, .ref g31, .ref g32, .ref g33])), (g1, .inl (T 0, 282, .inl fa)), (g28, .inl (T 0, 7, .inl fo)), (g29, .inl (T 0, 7, .inl gb42))] H locs → lv_has ls 5 [(4, .int (nI k42)), (0, .ref o), (1, .int (nI 4)), (2, .int (nI u)), (3, .int sum)] → W p l e (rmD 5 0 0) s m args below meth c H locs 0 0 (MQ below (gQ D A (q_m_laysf4 T pp so_ n o u sum w0 g1 g2 g3 g4 tp w6 w7 w8 w9 w10 w11 w12 w13 w14 g15 w16 g17 w18 w19 g20 w21 g22 g23 g24 w25 w26 w27 g28 g29 w30 g31 g32 g33 fa fo fp)) args s 0 0 A) (F0 m 42 ls []) := by
            intro fu_42
            induction fu_42 with
            | zero => intro k42 gb42 hk42 hcb hmu; exact absurd hmu (Nat.not_lt_zero _)
            | succ fu_42 ih_42 =>
              intro k42 gb42 hk42 hcb hmu_42 H locs ls V hl
              refine lv_iload hx hb dX8_lays_42 (lv_at hl 0 rfl) ?_
              refine lv_iload_n hx hb dX8_lays_44 rfl (lv_at hl 2 rfl) ?_
              refine lv_icmp_ge (tgt := 68) hx hb dX8_lays_45 (by decide) (fun c_20 => ?_) (fun c_20 => ?_)
              · skip
                have c_20 := b_le (by omega) (by omega) c_20
                exact g_vret (Qr := (q_m_laysf4 T pp so_ n o u sum w0 g1 g2 g3 g4 tp w6 w7 w8 w9 w10 w11 w12 w13 w14 g15 w16 g17 w18 w19 g20 w21 g22 g23 g24 w25 w26 w27 g28 g29 w30 g31 g32 g33 fa fo fp)) hC V ⟨(Nat.le_of_ble_eq_true rfl), (Nat.le_of_ble_eq_true rfl)⟩ ⟨sum, fo, gb42, rfl, rfl, (fun _ _ => rfl), (by rw [show n - 4 = 0 by omega]; show RST n fa (upR n fa so_ pp) _ _; rw [ur_y f_13]; exact (rs_up h_st h_sum (by omega) (Or.inr c_18) (fun i hi => (hcb i (by omega)).trans (h_pp.2 i (by omega)).1)))⟩ dX8_lays_68
              · skip
                have c_20 := b_nle (by omega) (by omega) c_20
                refine lv_aload_n hx hb dX8_lays_48 rfl (lv_at hl 1 rfl) ?_
                refine g_get hC V (ci := 8) uwX8 0 rfl rfl 29 (by decide) w_941 rfl rfl dX8_lays_49 ?_
                refine lv_iload hx hb dX8_lays_52 (lv_at hl 0 rfl) ?_
                refine lv_aload_n hx hb dX8_lays_54 rfl (lv_at hl 1 rfl) ?_
                refine g_get hC V (ci := 8) uwX8 0 rfl rfl 28 (by decide) w_940 rfl rfl dX8_lays_55 ?_
                refine lv_iload hx hb dX8_lays_58 (lv_at hl 0 rfl) ?_
                refine g_iald hC V 2 rfl (vp_in_nI (by omega) (by omega)) (v := (fo k42)) (congrArg _ (nI_clamp (by omega))) dX8_lays_60 ?_
                refine g_iast hC V 3 rfl (vp_in_nI (by omega) (by omega)) (f' := (upd gb42 k42 (fo k42))) (by rw [nI_clamp (by omega)]) (ws' := [(o, .inr (8, [.int w0, .ref g1, .ref g2, .ref g3, .ref g4, .int (nI tp), .int w6, .int w7, .int w8, .int w9, .int w10, .int w11, .int w12, .int w13, .int w14, .ref g15, .int w16, .ref g17, .int w18, .int w19, .ref g20, .int w21, .ref g22, .ref g23, .ref g24, .int w25, .int w26, .int w27, .ref g28, .ref g29, .int sum, .ref g31, .ref g32, .ref g33])), (g1, .inl (T 0, 282, .inl fa)), (g28, .inl (T 0, 7, .inl fo)), (g29, .inl (T 0, 7, .inl (upd gb42 k42 (fo k42))))]) rfl dX8_lays_61 (fun H locs V => ?_)
                refine lv_iinc (v := (nI (k42 + 1))) (lv' := [(4, .int (nI (k42 + 1))), (0, .ref o), (1, .int (nI 4)), (2, .int (nI u)), (3, .int sum)]) hx hb dX8_lays_62 hl (k := 0) rfl (nI_1 _) (by decide) rfl (fun ls hl => ?_)
                refine lv_goto (tgt := 42) hx hb dX8_lays_65 (by decide) ?_
                exact ih_42 (k42 + 1) (upd gb42 k42 (fo k42)) (by omega) (up_one (p := fun j x => x = fo j) hcb rfl) (by omega) _ _ _ V (lv_sub hl [0, 1, 2, 3, 4] rfl)
          exact L_19 _ 0 fp (by omega) (fun i h => absurd h (Nat.not_lt_zero _)) (Nat.lt_succ_self _) _ _ _ V (lv_sub hl [0, 1, 2, 3, 4] rfl)
        · skip
          exact g_vret (Qr := (q_m_laysf4 T pp so_ n o u sum w0 g1 g2 g3 g4 tp w6 w7 w8 w9 w10 w11 w12 w13 w14 g15 w16 g17 w18 w19 g20 w21 g22 g23 g24 w25 w26 w27 g28 g29 w30 g31 g32 g33 fa fo fp)) hC V ⟨(Nat.le_of_ble_eq_true rfl), (Nat.le_of_ble_eq_true rfl)⟩ ⟨w30, fo, fp, rfl, rfl, (fun _ _ => rfl), (by rw [show n - 4 = 0 by omega]; show RST n fa (upR n fa so_ pp) _ _; rw [ur_y f_13]; exact (rs_no h_st h_sum (by omega) c_15 c_18))⟩ dX8_lays_33
    · have V : gW D T A s [(o, .inr (8, [.int w0, .ref g1, .ref g2, .ref g3, .ref g4, .int (nI tp), .int w6, .int w7, .int w8, .int w9, .int w10, .int w11, .int w12, .int w13, .int w14, .ref g15, .int w16, .ref g17, .int w18, .int w19, .ref g20, .int w21, .ref g22, .ref g23, .ref g24, .int w25, .int w26, .int w27, .ref g28, .ref g29, .int w30, .ref g31, .ref g32, .ref g33])), (g1, .inl (T 0, 282, .inl fa)), (g28, .inl (T 0, 7, .inl fo)), (g29, .inl (T 0, 7, .inl fp))] H locs := V _ [0, 0, 0] rfl rfl rfl (by decide +kernel) rfl
      show W p l e _ s m args below meth c H locs _ _ _ (F0 m 14 ls [.int (nI 0)])
      refine lv_if_eq (tgt := 33) hx hb dX8_lays_14 (by decide) (fun _ => ?_) (fun c => absurd (show (nI 0) = 0 by decide +kernel) c)
      exact g_vret (Qr := (q_m_laysf4 T pp so_ n o u sum w0 g1 g2 g3 g4 tp w6 w7 w8 w9 w10 w11 w12 w13 w14 g15 w16 g17 w18 w19 g20 w21 g22 g23 g24 w25 w26 w27 g28 g29 w30 g31 g32 g33 fa fo fp)) hC V ⟨(Nat.le_of_ble_eq_true rfl), (Nat.le_of_ble_eq_true rfl)⟩ ⟨w30, fo, fp, rfl, rfl, (fun _ _ => rfl), (by rw [show n - 4 = 0 by omega]; show RST n fa (upR n fa so_ pp) _ _; rw [ur_n f_14]; exact h_st)⟩ dX8_lays_33

def q_m_laysf3 (T : Nat → ClassId) (pp : List Nat) (so_ : Option (List Nat)) (n : Nat) (o : Nat) (u : Nat) (sum : Int32) (w0 : Int32) (g1 : Nat) (g2 : Nat) (g3 : Nat) (g4 : Nat) (tp : Nat) (w6 : Int32) (w7 : Int32) (w8 : Int32) (w9 : Int32) (w10 : Int32) (w11 : Int32) (w12 : Int32) (w13 : Int32) (w14 : Int32) (g15 : Nat) (w16 : Int32) (g17 : Nat) (w18 : Int32) (w19 : Int32) (g20 : Nat) (w21 : Int32) (g22 : Nat) (g23 : Nat) (g24 : Nat) (w25 : Int32) (w26 : Int32) (w27 : Int32) (g28 : Nat) (g29 : Nat) (w30 : Int32) (g31 : Nat) (g32 : Nat) (g33 : Nat) (fa : Nat → Int32) (fo : Nat → Int32) (fp : Nat → Int32) : Option Value → va_W → Prop := fun rr ww => (∃ (bs : Int32) (go : Nat → Int32) (gp : Nat → Int32), rr = none ∧ ww = [(o, .inr (8, [.int w0, .ref g1, .ref g2, .ref g3, .ref g4, .int (nI tp), .int w6, .int w7, .int w8, .int w9, .int w10, .int w11, .int w12, .int w13, .int w14, .ref g15, .int w16, .ref g17, .int w18, .int w19, .ref g20, .int w21, .ref g22, .ref g23, .ref g24, .int w25, .int w26, .int w27, .ref g28, .ref g29, .int bs, .ref g31, .ref g32, .ref g33])), (g1, .inl (T 0, 282, .inl fa)), (g28, .inl (T 0, 7, .inl go)), (g29, .inl (T 0, 7, .inl gp))] ∧ (∀ j, j < 3 → go j = fo j) ∧ RST n fa ((gA n (n - 3) pp).foldl (upR n fa) so_) bs gp)
set_option maxHeartbeats 4000000 in
set_option maxRecDepth 100000 in
theorem m_laysf3 (l : Launch) (D : va_G) (T : Nat → ClassId) (pp : List Nat) (so_ : Option (List Nat)) (n : Nat) (o : Nat) (u : Nat) (sum : Int32) (w0 : Int32) (g1 : Nat) (g2 : Nat) (g3 : Nat) (g4 : Nat) (tp : Nat) (w6 : Int32) (w7 : Int32) (w8 : Int32) (w9 : Int32) (w10 : Int32) (w11 : Int32) (w12 : Int32) (w13 : Int32) (w14 : Int32) (g15 : Nat) (w16 : Int32) (g17 : Nat) (w18 : Int32) (w19 : Int32) (g20 : Nat) (w21 : Int32) (g22 : Nat) (g23 : Nat) (g24 : Nat) (w25 : Int32) (w26 : Int32) (w27 : Int32) (g28 : Nat) (g29 : Nat) (w30 : Int32) (g31 : Nat) (g32 : Nat) (g33 : Nat) (fa : Nat → Int32) (fo : Nat → Int32) (fp : Nat → Int32) (h_a : MI n fa) (h_li : LI 3 fo) (h_lt : ∀ j, j < 3 → toF fo j < n) (h_ub : UB 3 u fo) (h_1 : 1 ≤ n) (h_7 : n ≤ 7) (h_kn : 3 ≤ n) (h_pp : PFX n pp 3 fo) (h_us : USR pp u) (h_sum : sum = nI (smL fa 0 pp)) (h_sb : smL fa 0 pp ≤ 60 * 3) (h_st : RST n fa so_ w30 fp) : Ct l yX8_lays cX8_lays 5 none 6 0 0 D T [.ref o, .int (nI 3), .int (nI u), .int sum] [(o, .inr (8, [.int w0, .ref g1, .ref g2, .ref g3, .ref g4, .int (nI tp), .int w6, .int w7, .int w8, .int w9, .int w10, .int w11, .int w12, .int w13, .int w14, .ref g15, .int w16, .ref g17, .int w18, .int w19, .ref g20, .int w21, .ref g22, .ref g23, .ref g24, .int w25, .int w26, .int w27, .ref g28, .ref g29, .int w30, .ref g31, .ref g32, .ref g33])), (g1, .inl (T 0, 282, .inl fa)), (g28, .inl (T 0, 7, .inl fo)), (g29, .inl (T 0, 7, .inl fp))] (q_m_laysf3 T pp so_ n o u sum w0 g1 g2 g3 g4 tp w6 w7 w8 w9 w10 w11 w12 w13 w14 g15 w16 g17 w18 w19 g20 w21 g22 g23 g24 w25 w26 w27 g28 g29 w30 g31 g32 g33 fa fo fp) := by
  refine Ct.of (cc := cX8_lays) (maxL := 5) (ret := none) (by decide) (Nat.le_of_ble_eq_true rfl) ?_
  intro p e s m args below meth c A ls hC hnm V hl
  obtain ⟨hx, hb, hr, hml, hown, hts, hlocks⟩ := id hC
  generalize hH : s.heap = H at V ⊢
  clear hH
  have hl : lv_has ls 5 [(0, .ref o), (1, .int (nI 3)), (2, .int (nI u)), (3, .int sum)] := hl
  generalize hlo : ([] : List Loc) = locs at V ⊢
  clear hlo
  have ms0 := ms_rf h_a
  have hn10 := h_a.1
  have hu := h_ub.1
  refine lv_iload_n hx hb dX8_lays_0 rfl (lv_at hl 1 rfl) ?_
  refine lv_aload_n hx hb dX8_lays_1 rfl (lv_at hl 0 rfl) ?_
  refine g_get hC V (ci := 8) uwX8 0 rfl rfl 1 (by decide) w_913 rfl rfl dX8_lays_2 ?_
  refine lv_iconst (v := (nI 0)) hx hb dX8_lays_5 (by decide +kernel) ?_
  refine g_iald hC V 1 rfl (vp_in_nI (by decide) (by decide)) (v := (nI n)) (by rw [nI_clamp (by decide)]; first | rfl | exact h_a.2.1) dX8_lays_6 ?_
  refine lv_icmp_ne (tgt := 69) hx hb dX8_lays_7 (by decide) (fun c_1 => ?_) (fun c_1 => ?_)
  · skip
    have c_1 := b_ne (by omega) (by omega) c_1
    refine lv_iconst (v := (nI 0)) hx hb dX8_lays_69 (by decide +kernel) ?_
    refine lv_istore (lv' := [(4, .int (nI 0)), (0, .ref o), (1, .int (nI 3)), (2, .int (nI u)), (3, .int sum)]) hx hb dX8_lays_70 hl (by decide) rfl (fun ls hl => ?_)
    have L_2 : ∀ (fu : Nat) (k72 : Nat) (bv : Int32) (f72 : Nat → Int32) (gb72 : Nat → Int32), k72 ≤ n → (∀ j, j < 3 → f72 j = fo j) → RST n fa ((gaK n (n - 4) pp k72).foldl (upR n fa) so_) bv gb72 → n - k72 < fu → ∀ (H : Heap) (locs : List Loc) (ls : Array Slot), gW D T A s [(o, .inr (8, [.int w0, .ref g1, .ref g2, .ref g3, .ref g4, .int (nI tp), .int w6, .int w7, .int w8, .int w9, .int w10, .int w11, .int w12, .int w13, .int w14, .ref g15, .int w16, .ref g17, .int w18, .int w19, .ref g20, .int w21, .ref g22, .ref g23, .ref g24, .int w25, .int w26, .int w27, .ref g28, .ref g29, .int bv, .ref g31, .ref g32, .ref g33])), (g1, .inl (T 0, 282, .inl fa)), (g28, .inl (T 0, 7, .inl f72)), (g29, .inl (T 0, 7, .inl gb72))] H locs → lv_has ls 5 [(4, .int (nI k72)), (0, .ref o), (1, .int (nI 3)), (2, .int (nI u)), (3, .int sum)] → W p l e (rmD 6 0 0) s m args below meth c H locs 0 0 (MQ below (gQ D A (q_m_laysf3 T pp so_ n o u sum w0 g1 g2 g3 g4 tp w6 w7 w8 w9 w10 w11 w12 w13 w14 g15 w16 g17 w18 w19 g20 w21 g22 g23 g24 w25 w26 w27 g28 g29 w30 g31 g32 g33 fa fo fp)) args s 0 0 A) (F0 m 72 ls []) := by
      intro fu_72
      induction fu_72 with
      | zero => intro k72 bv f72 gb72 hk72 hpre hR hmu; exact absurd hmu (Nat.not_lt_zero _)
      | succ fu_72 ih_72 =>
        intro k72 bv f72 gb72 hk72 hpre hR hmu_72 H locs ls V hl
        refine lv_iload hx hb dX8_lays_72 (lv_at hl 0 rfl) ?_
        refine lv_aload_n hx hb dX8_lays_74 rfl (lv_at hl 1 rfl) ?_
        refine g_get hC V (ci := 8) uwX8 0 rfl rfl 1 (by decide) w_913 rfl rfl dX8_lays_75 ?_
        refine lv_iconst (v := (nI 0)) hx hb dX8_lays_78 (by decide +kernel) ?_
        refine g_iald hC V 1 rfl (vp_in_nI (by decide) (by decide)) (v := (nI n)) (by rw [nI_clamp (by decide)]; first | rfl | exact h_a.2.1) dX8_lays_79 ?_
        refine lv_icmp_ge (tgt := 132) hx hb dX8_lays_80 (by decide) (fun c_3 => ?_) (fun c_3 => ?_)
        · skip
          have c_3 := b_le (by omega) (by omega) c_3
          exact g_vret (Qr := (q_m_laysf3 T pp so_ n o u sum w0 g1 g2 g3 g4 tp w6 w7 w8 w9 w10 w11 w12 w13 w14 g15 w16 g17 w18 w19 g20 w21 g22 g23 g24 w25 w26 w27 g28 g29 w30 g31 g32 g33 fa fo fp)) hC V ⟨(Nat.le_of_ble_eq_true rfl), (Nat.le_of_ble_eq_true rfl)⟩ ⟨bv, f72, gb72, rfl, rfl, hpre, (by rw [show n - 3 = (n - 4) + 1 by omega]; have q := hR; rw [show k72 = n by omega] at q; exact q)⟩ dX8_lays_132
        · skip
          have c_3 := b_nle (by omega) (by omega) c_3
          refine lv_iload_n hx hb dX8_lays_83 rfl (lv_at hl 3 rfl) ?_
          refine lv_i2l (v := (nI u).toInt64) hx hb dX8_lays_84 rfl ?_
          refine lv_iload hx hb dX8_lays_85 (lv_at hl 0 rfl) ?_
          refine g_callSU (nA := 2) hC V hl.1 (m_isIn7 l D T u k72 h_ub.1 (by omega)) w_1130 w_1131 w_9 w_1132 (by decide +kernel) rfl ⟨(Nat.le_of_ble_eq_true rfl), (Nat.le_of_ble_eq_true rfl)⟩ [] rfl rfl (Nat.le_of_ble_eq_true rfl) dX8_lays_87 ⟨(Nat.le_of_ble_eq_true rfl), (Nat.le_of_ble_eq_true rfl)⟩ rfl (fun r w1 H locs hQ V => ?_)
          rcases hQ with ⟨rfl, rfl, f_4⟩ | ⟨rfl, rfl, f_5⟩
          · have V : gW D T A s [(o, .inr (8, [.int w0, .ref g1, .ref g2, .ref g3, .ref g4, .int (nI tp), .int w6, .int w7, .int w8, .int w9, .int w10, .int w11, .int w12, .int w13, .int w14, .ref g15, .int w16, .ref g17, .int w18, .int w19, .ref g20, .int w21, .ref g22, .ref g23, .ref g24, .int w25, .int w26, .int w27, .ref g28, .ref g29, .int bv, .ref g31, .ref g32, .ref g33])), (g1, .inl (T 0, 282, .inl fa)), (g28, .inl (T 0, 7, .inl f72)), (g29, .inl (T 0, 7, .inl gb72))] H locs := V _ [] rfl rfl rfl (by decide +kernel) rfl
            show W p l e _ s m args below meth c H locs _ _ _ (F0 m 90 ls [.int (nI 1)])
            refine lv_if_eq (tgt := 96) hx hb dX8_lays_90 (by decide) (fun c => absurd (show (nI 1) = 0 from c) (by decide +kernel)) (fun _ => ?_)
            refine lv_goto (tgt := 126) hx hb dX8_lays_93 (by decide) ?_
            refine lv_iinc (v := (nI (k72 + 1))) (lv' := [(4, .int (nI (k72 + 1))), (0, .ref o), (1, .int (nI 3)), (2, .int (nI u)), (3, .int sum)]) hx hb dX8_lays_126 hl (k := 0) rfl (nI_1 _) (by decide) rfl (fun ls hl => ?_)
            refine lv_goto (tgt := 72) hx hb dX8_lays_129 (by decide) ?_
            exact ih_72 (k72 + 1) bv f72 gb72 (by omega) (by assumption) (by rw [gak_n ((h_us k72 (by omega)).mp f_4)]; exact hR) (by omega) _ _ _ V (lv_sub hl [0, 1, 2, 3, 4] rfl)
          · have V : gW D T A s [(o, .inr (8, [.int w0, .ref g1, .ref g2, .ref g3, .ref g4, .int (nI tp), .int w6, .int w7, .int w8, .int w9, .int w10, .int w11, .int w12, .int w13, .int w14, .ref g15, .int w16, .ref g17, .int w18, .int w19, .ref g20, .int w21, .ref g22, .ref g23, .ref g24, .int w25, .int w26, .int w27, .ref g28, .ref g29, .int bv, .ref g31, .ref g32, .ref g33])), (g1, .inl (T 0, 282, .inl fa)), (g28, .inl (T 0, 7, .inl f72)), (g29, .inl (T 0, 7, .inl gb72))] H locs := V _ [] rfl rfl rfl (by decide +kernel) rfl
            show W p l e _ s m args below meth c H locs _ _ _ (F0 m 90 ls [.int (nI 0)])
            refine lv_if_eq (tgt := 96) hx hb dX8_lays_90 (by decide) (fun _ => ?_) (fun c => absurd (show (nI 0) = 0 by decide +kernel) c)
            refine lv_aload_n hx hb dX8_lays_96 rfl (lv_at hl 1 rfl) ?_
            refine g_get hC V (ci := 8) uwX8 0 rfl rfl 28 (by decide) w_940 rfl rfl dX8_lays_97 ?_
            refine lv_iload_n hx hb dX8_lays_100 rfl (lv_at hl 2 rfl) ?_
            refine lv_iload hx hb dX8_lays_101 (lv_at hl 0 rfl) ?_
            refine g_iast hC V 2 rfl (vp_in_nI (by decide) (by decide)) (f' := (upd f72 3 (nI k72))) (by rw [nI_clamp (by decide)]) (ws' := [(o, .inr (8, [.int w0, .ref g1, .ref g2, .ref g3, .ref g4, .int (nI tp), .int w6, .int w7, .int w8, .int w9, .int w10, .int w11, .int w12, .int w13, .int w14, .ref g15, .int w16, .ref g17, .int w18, .int w19, .ref g20, .int w21, .ref g22, .ref g23, .ref g24, .int w25, .int w26, .int w27, .ref g28, .ref g29, .int bv, .ref g31, .ref g32, .ref g33])), (g1, .inl (T 0, 282, .inl fa)), (g28, .inl (T 0, 7, .inl (upd f72 3 (nI k72)))), (g29, .inl (T 0, 7, .inl gb72))]) rfl dX8_lays_103 (fun H locs V => ?_)
            refine lv_aload_n hx hb dX8_lays_104 rfl (lv_at hl 1 rfl) ?_
            refine lv_iload_n hx hb dX8_lays_105 rfl (lv_at hl 2 rfl) ?_
            refine lv_iconst (v := (nI 1)) hx hb dX8_lays_106 (by decide +kernel) ?_
            refine lv_iadd hx hb dX8_lays_107 ?_
            refine g_vi (y := (nI 4)) (by decide +kernel) ?_
            refine lv_iload_n hx hb dX8_lays_108 rfl (lv_at hl 3 rfl) ?_
            refine lv_iconst (v := (nI 1)) hx hb dX8_lays_109 (by decide +kernel) ?_
            refine lv_iload hx hb dX8_lays_110 (lv_at hl 0 rfl) ?_
            refine lv_ishl hx hb dX8_lays_112 ?_
            refine g_vi (y := (nI (2 ^ k72))) (shl_pow (by omega)) ?_
            refine lv_ior hx hb dX8_lays_113 ?_
            refine g_vi (y := nI (u ||| (2 ^ k72))) (or7 (by omega) (by omega)) ?_
            refine lv_iload_n hx hb dX8_lays_114 rfl (lv_at hl 4 rfl) ?_
            refine lv_aload_n hx hb dX8_lays_115 rfl (lv_at hl 1 rfl) ?_
            refine lv_iload_n hx hb dX8_lays_116 rfl (lv_at hl 2 rfl) ?_
            refine lv_iload hx hb dX8_lays_117 (lv_at hl 0 rfl) ?_
            refine g_callVU (nA := 2) hC V hl.1 (m_offBy_f l D T o 3 k72 w0 g1 g2 g3 g4 tp w6 w7 w8 w9 w10 w11 w12 w13 w14 g15 w16 g17 w18 w19 g20 w21 g22 g23 g24 w25 w26 w27 g28 g29 bv g31 g32 g33 fa (by omega) (by omega)) w_1328 w_1330 w_s77 w_9 w_1331 (by decide +kernel) rfl ⟨(Nat.le_of_ble_eq_true rfl), (Nat.le_of_ble_eq_true rfl)⟩ 0 (ci := 8) rfl rfl [0, 1] rfl rfl (Nat.le_of_ble_eq_true rfl) dX8_lays_119 ⟨(Nat.le_of_ble_eq_true rfl), (Nat.le_of_ble_eq_true rfl)⟩ rfl (fun r w1 H locs hQ V => ?_)
            obtain ⟨z_6, rfl, rfl, f_7⟩ := hQ
            have V : gW D T A s [(o, .inr (8, [.int w0, .ref g1, .ref g2, .ref g3, .ref g4, .int (nI tp), .int w6, .int w7, .int w8, .int w9, .int w10, .int w11, .int w12, .int w13, .int w14, .ref g15, .int w16, .ref g17, .int w18, .int w19, .ref g20, .int w21, .ref g22, .ref g23, .ref g24, .int w25, .int w26, .int w27, .ref g28, .ref g29, .int bv, .ref g31, .ref g32, .ref g33])), (g1, .inl (T 0, 282, .inl fa)), (g28, .inl (T 0, 7, .inl (upd f72 3 (nI k72)))), (g29, .inl (T 0, 7, .inl gb72))] H locs := V _ [0, 0] rfl rfl rfl (by decide +kernel) rfl
            show W p l e _ s m args below meth c H locs _ _ _ (F0 m 122 ls [.int z_6, .int sum, .int (nI (u ||| (2 ^ k72))), .int (nI 4), .ref o])
            refine lv_iadd hx hb dX8_lays_122 ?_
            refine g_callV (wr := []) (nA := 3) hC V hl.1 (m_laysf4 l D T (pp ++ [k72]) ((gaK n (n - 4) pp k72).foldl (upR n fa) so_) n o (u ||| (2 ^ k72)) (sum + z_6) w0 g1 g2 g3 g4 tp w6 w7 w8 w9 w10 w11 w12 w13 w14 g15 w16 g17 w18 w19 g20 w21 g22 g23 g24 w25 w26 w27 g28 g29 bv g31 g32 g33 fa (upd f72 3 (nI k72)) gb72 h_a (li_put (li_ext h_li hpre) (by omega) (ub_free (ub_ext h_ub hpre) (by assumption))) (lt_put h_lt hpre (by omega) h_7) (ub_put (ub_ext h_ub hpre) (by omega)) h_1 h_7 (by omega) (pf_s (pf_e h_pp hpre) (by omega)) (ur_s h_us) (sqz_s h_a (by omega) (by omega) h_sum h_pp.1 f_7) (sqz_b h_a (by omega) (by omega) h_sb h_pp.1) hR) w_1320 w_1322 w_s75 w_9 w_1323 (by decide +kernel) rfl ⟨(Nat.le_of_ble_eq_true rfl), (Nat.le_of_ble_eq_true rfl)⟩ 0 (ci := 8) rfl rfl [0, 1, 2, 3] [] rfl rfl rfl rfl (by decide) (Nat.le_of_ble_eq_true rfl) dX8_lays_123 ⟨(Nat.le_of_ble_eq_true rfl), (Nat.le_of_ble_eq_true rfl)⟩ rfl (fun r w1 H locs hQ V => ?_)
            obtain ⟨bs_8, go_9, gp_10, rfl, rfl, f_11, f_12⟩ := hQ
            have V : gW D T A s [(o, .inr (8, [.int w0, .ref g1, .ref g2, .ref g3, .ref g4, .int (nI tp), .int w6, .int w7, .int w8, .int w9, .int w10, .int w11, .int w12, .int w13, .int w14, .ref g15, .int w16, .ref g17, .int w18, .int w19, .ref g20, .int w21, .ref g22, .ref g23, .ref g24, .int w25, .int w26, .int w27, .ref g28, .ref g29, .int bs_8, .ref g31, .ref g32, .ref g33])), (g1, .inl (T 0, 282, .inl fa)), (g28, .inl (T 0, 7, .inl go_9)), (g29, .inl (T 0, 7, .inl gp_10))] H locs := V
            show W p l e _ s m args below meth c H locs _ _ _ (F0 m 126 ls [])
            have hpre2 : ∀ j, j < 3 → go_9 j = fo j := fun j hj => (f_11 j (by omega)).trans ((up_other (by omega)).trans (hpre j hj))
            refine lv_iinc (v := (nI (k72 + 1))) (lv' := [(4, .int (nI (k72 + 1))), (0, .ref o), (1, .int (nI 3)), (2, .int (nI u)), (3, .int sum)]) hx hb dX8_lays_126 hl (k := 0) rfl (nI_1 _) (by decide) rfl (fun ls hl => ?_)
            refine lv_goto (tgt := 72) hx hb dX8_lays_129 (by decide) ?_
            exact ih_72 (k72 + 1) bs_8 go_9 gp_10 (by omega) (by assumption) (by rw [gak_y (fun r => by have q := (h_us k72 (by omega)).mpr r; rw [f_5] at q; cases q), List.foldl_append]; exact f_12) (by omega) _ _ _ V (lv_sub hl [0, 1, 2, 3, 4] rfl)
    exact L_2 _ 0 w30 fo fp (by omega) (fun _ _ => rfl) h_st (Nat.lt_succ_self _) _ _ _ V (lv_sub hl [0, 1, 2, 3, 4] rfl)
  · skip
    have c_1 := b_eq (by omega) (by omega) c_1
    have hkn : 3 = n := c_1
    refine lv_aload_n hx hb dX8_lays_10 rfl (lv_at hl 0 rfl) ?_
    refine g_callVU (nA := 0) hC V hl.1 (m_isOneRing_f l D T pp n o w0 g1 g2 g3 g4 tp w6 w7 w8 w9 w10 w11 w12 w13 w14 g15 w16 g17 w18 w19 g20 w21 g22 g23 g24 w25 w26 w27 g28 g29 w30 g31 g32 g33 fa fo h_a (lf_of h_li h_lt (by omega)) h_1 h_7 (by have q := h_pp; rw [show 3 = n by omega] at q; exact q)) w_1324 w_1326 w_s76 w_9 w_1327 (by decide +kernel) rfl ⟨(Nat.le_of_ble_eq_true rfl), (Nat.le_of_ble_eq_true rfl)⟩ 0 (ci := 8) rfl rfl [0, 1, 2] rfl rfl (Nat.le_of_ble_eq_true rfl) dX8_lays_11 ⟨(Nat.le_of_ble_eq_true rfl), (Nat.le_of_ble_eq_true rfl)⟩ rfl (fun r w1 H locs hQ V => ?_)
    rcases hQ with ⟨rfl, rfl, f_13⟩ | ⟨rfl, rfl, f_14⟩
    · have V : gW D T A s [(o, .inr (8, [.int w0, .ref g1, .ref g2, .ref g3, .ref g4, .int (nI tp), .int w6, .int w7, .int w8, .int w9, .int w10, .int w11, .int w12, .int w13, .int w14, .ref g15, .int w16, .ref g17, .int w18, .int w19, .ref g20, .int w21, .ref g22, .ref g23, .ref g24, .int w25, .int w26, .int w27, .ref g28, .ref g29, .int w30, .ref g31, .ref g32, .ref g33])), (g1, .inl (T 0, 282, .inl fa)), (g28, .inl (T 0, 7, .inl fo)), (g29, .inl (T 0, 7, .inl fp))] H locs := V _ [0, 0, 0] rfl rfl rfl (by decide +kernel) rfl
      show W p l e _ s m args below meth c H locs _ _ _ (F0 m 14 ls [.int (nI 1)])
      refine lv_if_eq (tgt := 33) hx hb dX8_lays_14 (by decide) (fun c => absurd (show (nI 1) = 0 from c) (by decide +kernel)) (fun _ => ?_)
      refine lv_aload_n hx hb dX8_lays_17 rfl (lv_at hl 0 rfl) ?_
      refine g_get hC V (ci := 8) uwX8 0 rfl rfl 30 (by decide) w_942 rfl rfl dX8_lays_18 ?_
      refine lv_iconst (v := (-1)) hx hb dX8_lays_21 (by decide +kernel) ?_
      refine lv_icmp_eq (tgt := 34) hx hb dX8_lays_22 (by decide) (fun c_15 => ?_) (fun c_15 => ?_)
      · skip
        refine lv_aload_n hx hb dX8_lays_34 rfl (lv_at hl 0 rfl) ?_
        refine lv_iload_n hx hb dX8_lays_35 rfl (lv_at hl 3 rfl) ?_
        refine g_put hC V (ci := 8) uwX8 tyX8 tyX8_ok nmX8 0 rfl rfl 30 (by decide) w_942 rfl rfl rfl rfl (Nat.le_of_ble_eq_true rfl) (ws' := [(o, .inr (8, [.int w0, .ref g1, .ref g2, .ref g3, .ref g4, .int (nI tp), .int w6, .int w7, .int w8, .int w9, .int w10, .int w11, .int w12, .int w13, .int w14, .ref g15, .int w16, .ref g17, .int w18, .int w19, .ref g20, .int w21, .ref g22, .ref g23, .ref g24, .int w25, .int w26, .int w27, .ref g28, .ref g29, .int sum, .ref g31, .ref g32, .ref g33])), (g1, .inl (T 0, 282, .inl fa)), (g28, .inl (T 0, 7, .inl fo)), (g29, .inl (T 0, 7, .inl fp))]) rfl dX8_lays_36 (fun H locs V => ?_)
        refine lv_iconst (v := (nI 0)) hx hb dX8_lays_39 (by decide +kernel) ?_
        refine lv_istore (lv' := [(4, .int (nI 0)), (0, .ref o), (1, .int (nI 3)), (2, .int (nI u)), (3, .int sum)]) hx hb dX8_lays_40 hl (by decide) rfl (fun ls hl => ?_)
        have L_16 : ∀ (fu : Nat) (k42 : Nat) (gb42 : Nat → Int32), k42 ≤ 3 → (∀ j, j < k42 → gb42 j = fo j) → 3 - k42 < fu → ∀ (H : Heap) (locs : List Loc) (ls : Array Slot), gW D T A s [(o, .inr (8, [.int w0, .ref g1, .ref g2, .ref g3, .ref g4, .int (nI tp), .int w6, .int w7, .int w8, .int w9, .int w10, .int w11, .int w12, .int w13, .int w14, .ref g15, .int w16, .ref g17, .int w18, .int w19, .ref g20, .int w21, .ref g22, .ref g23, .ref g24, .int w25, .int w26, .int w27, .ref g28, .ref g29, .int sum, .ref g31, .ref g32, .ref g33])), (g1, .inl (T 0, 282, .inl fa)), (g28, .inl (T 0, 7, .inl fo)), (g29, .inl (T 0, 7, .inl gb42))] H locs → lv_has ls 5 [(4, .int (nI k42)), (0, .ref o), (1, .int (nI 3)), (2, .int (nI u)), (3, .int sum)] → W p l e (rmD 6 0 0) s m args below meth c H locs 0 0 (MQ below (gQ D A (q_m_laysf3 T pp so_ n o u sum w0 g1 g2 g3 g4 tp w6 w7 w8 w9 w10 w11 w12 w13 w14 g15 w16 g17 w18 w19 g20 w21 g22 g23 g24 w25 w26 w27 g28 g29 w30 g31 g32 g33 fa fo fp)) args s 0 0 A) (F0 m 42 ls []) := by
          intro fu_42
          induction fu_42 with
          | zero => intro k42 gb42 hk42 hcb hmu; exact absurd hmu (Nat.not_lt_zero _)
          | succ fu_42 ih_42 =>
            intro k42 gb42 hk42 hcb hmu_42 H locs ls V hl
            refine lv_iload hx hb dX8_lays_42 (lv_at hl 0 rfl) ?_
            refine lv_iload_n hx hb dX8_lays_44 rfl (lv_at hl 2 rfl) ?_
            refine lv_icmp_ge (tgt := 68) hx hb dX8_lays_45 (by decide) (fun c_17 => ?_) (fun c_17 => ?_)
            · skip
              have c_17 := b_le (by omega) (by omega) c_17
              exact g_vret (Qr := (q_m_laysf3 T pp so_ n o u sum w0 g1 g2 g3 g4 tp w6 w7 w8 w9 w10 w11 w12 w13 w14 g15 w16 g17 w18 w19 g20 w21 g22 g23 g24 w25 w26 w27 g28 g29 w30 g31 g32 g33 fa fo fp)) hC V ⟨(Nat.le_of_ble_eq_true rfl), (Nat.le_of_ble_eq_true rfl)⟩ ⟨sum, fo, gb42, rfl, rfl, (fun _ _ => rfl), (by rw [show n - 3 = 0 by omega]; show RST n fa (upR n fa so_ pp) _ _; rw [ur_y f_13]; exact (rs_up h_st h_sum (by omega) (Or.inl c_15) (fun i hi => (hcb i (by omega)).trans (h_pp.2 i (by omega)).1)))⟩ dX8_lays_68
            · skip
              have c_17 := b_nle (by omega) (by omega) c_17
              refine lv_aload_n hx hb dX8_lays_48 rfl (lv_at hl 1 rfl) ?_
              refine g_get hC V (ci := 8) uwX8 0 rfl rfl 29 (by decide) w_941 rfl rfl dX8_lays_49 ?_
              refine lv_iload hx hb dX8_lays_52 (lv_at hl 0 rfl) ?_
              refine lv_aload_n hx hb dX8_lays_54 rfl (lv_at hl 1 rfl) ?_
              refine g_get hC V (ci := 8) uwX8 0 rfl rfl 28 (by decide) w_940 rfl rfl dX8_lays_55 ?_
              refine lv_iload hx hb dX8_lays_58 (lv_at hl 0 rfl) ?_
              refine g_iald hC V 2 rfl (vp_in_nI (by omega) (by omega)) (v := (fo k42)) (congrArg _ (nI_clamp (by omega))) dX8_lays_60 ?_
              refine g_iast hC V 3 rfl (vp_in_nI (by omega) (by omega)) (f' := (upd gb42 k42 (fo k42))) (by rw [nI_clamp (by omega)]) (ws' := [(o, .inr (8, [.int w0, .ref g1, .ref g2, .ref g3, .ref g4, .int (nI tp), .int w6, .int w7, .int w8, .int w9, .int w10, .int w11, .int w12, .int w13, .int w14, .ref g15, .int w16, .ref g17, .int w18, .int w19, .ref g20, .int w21, .ref g22, .ref g23, .ref g24, .int w25, .int w26, .int w27, .ref g28, .ref g29, .int sum, .ref g31, .ref g32, .ref g33])), (g1, .inl (T 0, 282, .inl fa)), (g28, .inl (T 0, 7, .inl fo)), (g29, .inl (T 0, 7, .inl (upd gb42 k42 (fo k42))))]) rfl dX8_lays_61 (fun H locs V => ?_)
              refine lv_iinc (v := (nI (k42 + 1))) (lv' := [(4, .int (nI (k42 + 1))), (0, .ref o), (1, .int (nI 3)), (2, .int (nI u)), (3, .int sum)]) hx hb dX8_lays_62 hl (k := 0) rfl (nI_1 _) (by decide) rfl (fun ls hl => ?_)
              refine lv_goto (tgt := 42) hx hb dX8_lays_65 (by decide) ?_
              exact ih_42 (k42 + 1) (upd gb42 k42 (fo k42)) (by omega) (up_one (p := fun j x => x = fo j) hcb rfl) (by omega) _ _ _ V (lv_sub hl [0, 1, 2, 3, 4] rfl)
        exact L_16 _ 0 fp (by omega) (fun i h => absurd h (Nat.not_lt_zero _)) (Nat.lt_succ_self _) _ _ _ V (lv_sub hl [0, 1, 2, 3, 4] rfl)
      · skip
        refine lv_iload_n hx hb dX8_lays_25 rfl (lv_at hl 3 rfl) ?_
        refine lv_aload_n hx hb dX8_lays_26 rfl (lv_at hl 0 rfl) ?_
        refine g_get hC V (ci := 8) uwX8 0 rfl rfl 30 (by decide) w_942 rfl rfl dX8_lays_27 ?_
        refine lv_icmp_lt (tgt := 34) hx hb dX8_lays_30 (by decide) (fun c_18 => ?_) (fun c_18 => ?_)
        · skip
          refine lv_aload_n hx hb dX8_lays_34 rfl (lv_at hl 0 rfl) ?_
          refine lv_iload_n hx hb dX8_lays_35 rfl (lv_at hl 3 rfl) ?_
          refine g_put hC V (ci := 8) uwX8 tyX8 tyX8_ok nmX8 0 rfl rfl 30 (by decide) w_942 rfl rfl rfl rfl (Nat.le_of_ble_eq_true rfl) (ws' := [(o, .inr (8, [.int w0, .ref g1, .ref g2, .ref g3, .ref g4, .int (nI tp), .int w6, .int w7, .int w8, .int w9, .int w10, .int w11, .int w12, .int w13, .int w14, .ref g15, .int w16, .ref g17, .int w18, .int w19, .ref g20, .int w21, .ref g22, .ref g23, .ref g24, .int w25, .int w26, .int w27, .ref g28, .ref g29, .int sum, .ref g31, .ref g32, .ref g33])), (g1, .inl (T 0, 282, .inl fa)), (g28, .inl (T 0, 7, .inl fo)), (g29, .inl (T 0, 7, .inl fp))]) rfl dX8_lays_36 (fun H locs V => ?_)
          refine lv_iconst (v := (nI 0)) hx hb dX8_lays_39 (by decide +kernel) ?_
          refine lv_istore (lv' := [(4, .int (nI 0)), (0, .ref o), (1, .int (nI 3)), (2, .int (nI u)), (3, .int sum)]) hx hb dX8_lays_40 hl (by decide) rfl (fun ls hl => ?_)
          have L_19 : ∀ (fu : Nat) (k42 : Nat) (gb42 : Nat → Int32), k42 ≤ 3 → (∀ j, j < k42 → gb42 j = fo j) → 3 - k42 < fu → ∀ (H : Heap) (locs : List Loc) (ls : Array Slot), gW D T A s [(o, .inr (8, [.int w0, .ref g1, .ref g2, .ref g3, .ref g4, .int (nI tp), .int w6, .int w7, .int w8, .int w9, .int w10, .int w11, .int w12, .int w13, .int w14, .ref g15, .int w16, .ref g17, .int w18, .int w19, .ref g20, .int w21, .ref g22, .ref g23, .ref g24, .int w25, .int w26, .int w27, .ref g28, .ref g29, .int sum, .ref g31, .ref g32, .ref g33])), (g1, .inl (T 0, 282, .inl fa)), (g28, .inl (T 0, 7, .inl fo)), (g29, .inl (T 0, 7, .inl gb42))] H locs → lv_has ls 5 [(4, .int (nI k42)), (0, .ref o), (1, .int (nI 3)), (2, .int (nI u)), (3, .int sum)] → W p l e (rmD 6 0 0) s m args below meth c H locs 0 0 (MQ below (gQ D A (q_m_laysf3 T pp so_ n o u sum w0 g1 g2 g3 g4 tp w6 w7 w8 w9 w10 w11 w12 w13 w14 g15 w16 g17 w18 w19 g20 w21 g22 g23 g24 w25 w26 w27 g28 g29 w30 g31 g32 g33 fa fo fp)) args s 0 0 A) (F0 m 42 ls []) := by
            intro fu_42
            induction fu_42 with
            | zero => intro k42 gb42 hk42 hcb hmu; exact absurd hmu (Nat.not_lt_zero _)
            | succ fu_42 ih_42 =>
              intro k42 gb42 hk42 hcb hmu_42 H locs ls V hl
              refine lv_iload hx hb dX8_lays_42 (lv_at hl 0 rfl) ?_
              refine lv_iload_n hx hb dX8_lays_44 rfl (lv_at hl 2 rfl) ?_
              refine lv_icmp_ge (tgt := 68) hx hb dX8_lays_45 (by decide) (fun c_20 => ?_) (fun c_20 => ?_)
              · skip
                have c_20 := b_le (by omega) (by omega) c_20
                exact g_vret (Qr := (q_m_laysf3 T pp so_ n o u sum w0 g1 g2 g3 g4 tp w6 w7 w8 w9 w10 w11 w12 w13 w14 g15 w16 g17 w18 w19 g20 w21 g22 g23 g24 w25 w26 w27 g28 g29 w30 g31 g32 g33 fa fo fp)) hC V ⟨(Nat.le_of_ble_eq_true rfl), (Nat.le_of_ble_eq_true rfl)⟩ ⟨sum, fo, gb42, rfl, rfl, (fun _ _ => rfl), (by rw [show n - 3 = 0 by omega]; show RST n fa (upR n fa so_ pp) _ _; rw [ur_y f_13]; exact (rs_up h_st h_sum (by omega) (Or.inr c_18) (fun i hi => (hcb i (by omega)).trans (h_pp.2 i (by omega)).1)))⟩ dX8_lays_68
              · skip
                have c_20 := b_nle (by omega) (by omega) c_20
                refine lv_aload_n hx hb dX8_lays_48 rfl (lv_at hl 1 rfl) ?_
                refine g_get hC V (ci := 8) uwX8 0 rfl rfl 29 (by decide) w_941 rfl rfl dX8_lays_49 ?_
                refine lv_iload hx hb dX8_lays_52 (lv_at hl 0 rfl) ?_
                refine lv_aload_n hx hb dX8_lays_54 rfl (lv_at hl 1 rfl) ?_
                refine g_get hC V (ci := 8) uwX8 0 rfl rfl 28 (by decide) w_940 rfl rfl dX8_lays_55 ?_
                refine lv_iload hx hb dX8_lays_58 (lv_at hl 0 rfl) ?_
                refine g_iald hC V 2 rfl (vp_in_nI (by omega) (by omega)) (v := (fo k42)) (congrArg _ (nI_clamp (by omega))) dX8_lays_60 ?_
                refine g_iast hC V 3 rfl (vp_in_nI (by omega) (by omega)) (f' := (upd gb42 k42 (fo k42))) (by rw [nI_clamp (by omega)]) (ws' := [(o, .inr (8, [.int w0, .ref g1, .ref g2, .ref g3, .ref g4, .int (nI tp), .int w6, .int w7, .int w8, .int w9, .int w10, .int w11, .int w12, .int w13, .int w14, .ref g15, .int w16, .ref g17, .int w18, .int w19, .ref g20, .int w21, .ref g22, .ref g23, .ref g24, .int w25, .int w26, .int w27, .ref g28, .ref g29, .int sum, .ref g31, .ref g32, .ref g33])), (g1, .inl (T 0, 282, .inl fa)), (g28, .inl (T 0, 7, .inl fo)), (g29, .inl (T 0, 7, .inl (upd gb42 k42 (fo k42))))]) rfl dX8_lays_61 (fun H locs V => ?_)
                refine lv_iinc (v := (nI (k42 + 1))) (lv' := [(4, .int (nI (k42 + 1))), (0, .ref o), (1, .int (nI 3)), (2, .int (nI u)), (3, .int sum)]) hx hb dX8_lays_62 hl (k := 0) rfl (nI_1 _) (by decide) rfl (fun ls hl => ?_)
                refine lv_goto (tgt := 42) hx hb dX8_lays_65 (by decide) ?_
                exact ih_42 (k42 + 1) (upd gb42 k42 (fo k42)) (by omega) (up_one (p := fun j x => x = fo j) hcb rfl) (by omega) _ _ _ V (lv_sub hl [0, 1, 2, 3, 4] rfl)
          exact L_19 _ 0 fp (by omega) (fun i h => absurd h (Nat.not_lt_zero _)) (Nat.lt_succ_self _) _ _ _ V (lv_sub hl [0, 1, 2, 3, 4] rfl)
        · skip
          exact g_vret (Qr := (q_m_laysf3 T pp so_ n o u sum w0 g1 g2 g3 g4 tp w6 w7 w8 w9 w10 w11 w12 w13 w14 g15 w16 g17 w18 w19 g20 w21 g22 g23 g24 w25 w26 w27 g28 g29 w30 g31 g32 g33 fa fo fp)) hC V ⟨(Nat.le_of_ble_eq_true rfl), (Nat.le_of_ble_eq_true rfl)⟩ ⟨w30, fo, fp, rfl, rfl, (fun _ _ => rfl), (by rw [show n - 3 = 0 by omega]; show RST n fa (upR n fa so_ pp) _ _; rw [ur_y f_13]; exact (rs_no h_st h_sum (by omega) c_15 c_18))⟩ dX8_lays_33
    · have V : gW D T A s [(o, .inr (8, [.int w0, .ref g1, .ref g2, .ref g3, .ref g4, .int (nI tp), .int w6, .int w7, .int w8, .int w9, .int w10, .int w11, .int w12, .int w13, .int w14, .ref g15, .int w16, .ref g17, .int w18, .int w19, .ref g20, .int w21, .ref g22, .ref g23, .ref g24, .int w25, .int w26, .int w27, .ref g28, .ref g29, .int w30, .ref g31, .ref g32, .ref g33])), (g1, .inl (T 0, 282, .inl fa)), (g28, .inl (T 0, 7, .inl fo)), (g29, .inl (T 0, 7, .inl fp))] H locs := V _ [0, 0, 0] rfl rfl rfl (by decide +kernel) rfl
      show W p l e _ s m args below meth c H locs _ _ _ (F0 m 14 ls [.int (nI 0)])
      refine lv_if_eq (tgt := 33) hx hb dX8_lays_14 (by decide) (fun _ => ?_) (fun c => absurd (show (nI 0) = 0 by decide +kernel) c)
      exact g_vret (Qr := (q_m_laysf3 T pp so_ n o u sum w0 g1 g2 g3 g4 tp w6 w7 w8 w9 w10 w11 w12 w13 w14 g15 w16 g17 w18 w19 g20 w21 g22 g23 g24 w25 w26 w27 g28 g29 w30 g31 g32 g33 fa fo fp)) hC V ⟨(Nat.le_of_ble_eq_true rfl), (Nat.le_of_ble_eq_true rfl)⟩ ⟨w30, fo, fp, rfl, rfl, (fun _ _ => rfl), (by rw [show n - 3 = 0 by omega]; show RST n fa (upR n fa so_ pp) _ _; rw [ur_n f_14]; exact h_st)⟩ dX8_lays_33

def q_m_laysf2 (T : Nat → ClassId) (pp : List Nat) (so_ : Option (List Nat)) (n : Nat) (o : Nat) (u : Nat) (sum : Int32) (w0 : Int32) (g1 : Nat) (g2 : Nat) (g3 : Nat) (g4 : Nat) (tp : Nat) (w6 : Int32) (w7 : Int32) (w8 : Int32) (w9 : Int32) (w10 : Int32) (w11 : Int32) (w12 : Int32) (w13 : Int32) (w14 : Int32) (g15 : Nat) (w16 : Int32) (g17 : Nat) (w18 : Int32) (w19 : Int32) (g20 : Nat) (w21 : Int32) (g22 : Nat) (g23 : Nat) (g24 : Nat) (w25 : Int32) (w26 : Int32) (w27 : Int32) (g28 : Nat) (g29 : Nat) (w30 : Int32) (g31 : Nat) (g32 : Nat) (g33 : Nat) (fa : Nat → Int32) (fo : Nat → Int32) (fp : Nat → Int32) : Option Value → va_W → Prop := fun rr ww => (∃ (bs : Int32) (go : Nat → Int32) (gp : Nat → Int32), rr = none ∧ ww = [(o, .inr (8, [.int w0, .ref g1, .ref g2, .ref g3, .ref g4, .int (nI tp), .int w6, .int w7, .int w8, .int w9, .int w10, .int w11, .int w12, .int w13, .int w14, .ref g15, .int w16, .ref g17, .int w18, .int w19, .ref g20, .int w21, .ref g22, .ref g23, .ref g24, .int w25, .int w26, .int w27, .ref g28, .ref g29, .int bs, .ref g31, .ref g32, .ref g33])), (g1, .inl (T 0, 282, .inl fa)), (g28, .inl (T 0, 7, .inl go)), (g29, .inl (T 0, 7, .inl gp))] ∧ (∀ j, j < 2 → go j = fo j) ∧ RST n fa ((gA n (n - 2) pp).foldl (upR n fa) so_) bs gp)
set_option maxHeartbeats 4000000 in
set_option maxRecDepth 100000 in
theorem m_laysf2 (l : Launch) (D : va_G) (T : Nat → ClassId) (pp : List Nat) (so_ : Option (List Nat)) (n : Nat) (o : Nat) (u : Nat) (sum : Int32) (w0 : Int32) (g1 : Nat) (g2 : Nat) (g3 : Nat) (g4 : Nat) (tp : Nat) (w6 : Int32) (w7 : Int32) (w8 : Int32) (w9 : Int32) (w10 : Int32) (w11 : Int32) (w12 : Int32) (w13 : Int32) (w14 : Int32) (g15 : Nat) (w16 : Int32) (g17 : Nat) (w18 : Int32) (w19 : Int32) (g20 : Nat) (w21 : Int32) (g22 : Nat) (g23 : Nat) (g24 : Nat) (w25 : Int32) (w26 : Int32) (w27 : Int32) (g28 : Nat) (g29 : Nat) (w30 : Int32) (g31 : Nat) (g32 : Nat) (g33 : Nat) (fa : Nat → Int32) (fo : Nat → Int32) (fp : Nat → Int32) (h_a : MI n fa) (h_li : LI 2 fo) (h_lt : ∀ j, j < 2 → toF fo j < n) (h_ub : UB 2 u fo) (h_1 : 1 ≤ n) (h_7 : n ≤ 7) (h_kn : 2 ≤ n) (h_pp : PFX n pp 2 fo) (h_us : USR pp u) (h_sum : sum = nI (smL fa 0 pp)) (h_sb : smL fa 0 pp ≤ 60 * 2) (h_st : RST n fa so_ w30 fp) : Ct l yX8_lays cX8_lays 5 none 7 0 0 D T [.ref o, .int (nI 2), .int (nI u), .int sum] [(o, .inr (8, [.int w0, .ref g1, .ref g2, .ref g3, .ref g4, .int (nI tp), .int w6, .int w7, .int w8, .int w9, .int w10, .int w11, .int w12, .int w13, .int w14, .ref g15, .int w16, .ref g17, .int w18, .int w19, .ref g20, .int w21, .ref g22, .ref g23, .ref g24, .int w25, .int w26, .int w27, .ref g28, .ref g29, .int w30, .ref g31, .ref g32, .ref g33])), (g1, .inl (T 0, 282, .inl fa)), (g28, .inl (T 0, 7, .inl fo)), (g29, .inl (T 0, 7, .inl fp))] (q_m_laysf2 T pp so_ n o u sum w0 g1 g2 g3 g4 tp w6 w7 w8 w9 w10 w11 w12 w13 w14 g15 w16 g17 w18 w19 g20 w21 g22 g23 g24 w25 w26 w27 g28 g29 w30 g31 g32 g33 fa fo fp) := by
  refine Ct.of (cc := cX8_lays) (maxL := 5) (ret := none) (by decide) (Nat.le_of_ble_eq_true rfl) ?_
  intro p e s m args below meth c A ls hC hnm V hl
  obtain ⟨hx, hb, hr, hml, hown, hts, hlocks⟩ := id hC
  generalize hH : s.heap = H at V ⊢
  clear hH
  have hl : lv_has ls 5 [(0, .ref o), (1, .int (nI 2)), (2, .int (nI u)), (3, .int sum)] := hl
  generalize hlo : ([] : List Loc) = locs at V ⊢
  clear hlo
  have ms0 := ms_rf h_a
  have hn10 := h_a.1
  have hu := h_ub.1
  refine lv_iload_n hx hb dX8_lays_0 rfl (lv_at hl 1 rfl) ?_
  refine lv_aload_n hx hb dX8_lays_1 rfl (lv_at hl 0 rfl) ?_
  refine g_get hC V (ci := 8) uwX8 0 rfl rfl 1 (by decide) w_913 rfl rfl dX8_lays_2 ?_
  refine lv_iconst (v := (nI 0)) hx hb dX8_lays_5 (by decide +kernel) ?_
  refine g_iald hC V 1 rfl (vp_in_nI (by decide) (by decide)) (v := (nI n)) (by rw [nI_clamp (by decide)]; first | rfl | exact h_a.2.1) dX8_lays_6 ?_
  refine lv_icmp_ne (tgt := 69) hx hb dX8_lays_7 (by decide) (fun c_1 => ?_) (fun c_1 => ?_)
  · skip
    have c_1 := b_ne (by omega) (by omega) c_1
    refine lv_iconst (v := (nI 0)) hx hb dX8_lays_69 (by decide +kernel) ?_
    refine lv_istore (lv' := [(4, .int (nI 0)), (0, .ref o), (1, .int (nI 2)), (2, .int (nI u)), (3, .int sum)]) hx hb dX8_lays_70 hl (by decide) rfl (fun ls hl => ?_)
    have L_2 : ∀ (fu : Nat) (k72 : Nat) (bv : Int32) (f72 : Nat → Int32) (gb72 : Nat → Int32), k72 ≤ n → (∀ j, j < 2 → f72 j = fo j) → RST n fa ((gaK n (n - 3) pp k72).foldl (upR n fa) so_) bv gb72 → n - k72 < fu → ∀ (H : Heap) (locs : List Loc) (ls : Array Slot), gW D T A s [(o, .inr (8, [.int w0, .ref g1, .ref g2, .ref g3, .ref g4, .int (nI tp), .int w6, .int w7, .int w8, .int w9, .int w10, .int w11, .int w12, .int w13, .int w14, .ref g15, .int w16, .ref g17, .int w18, .int w19, .ref g20, .int w21, .ref g22, .ref g23, .ref g24, .int w25, .int w26, .int w27, .ref g28, .ref g29, .int bv, .ref g31, .ref g32, .ref g33])), (g1, .inl (T 0, 282, .inl fa)), (g28, .inl (T 0, 7, .inl f72)), (g29, .inl (T 0, 7, .inl gb72))] H locs → lv_has ls 5 [(4, .int (nI k72)), (0, .ref o), (1, .int (nI 2)), (2, .int (nI u)), (3, .int sum)] → W p l e (rmD 7 0 0) s m args below meth c H locs 0 0 (MQ below (gQ D A (q_m_laysf2 T pp so_ n o u sum w0 g1 g2 g3 g4 tp w6 w7 w8 w9 w10 w11 w12 w13 w14 g15 w16 g17 w18 w19 g20 w21 g22 g23 g24 w25 w26 w27 g28 g29 w30 g31 g32 g33 fa fo fp)) args s 0 0 A) (F0 m 72 ls []) := by
      intro fu_72
      induction fu_72 with
      | zero => intro k72 bv f72 gb72 hk72 hpre hR hmu; exact absurd hmu (Nat.not_lt_zero _)
      | succ fu_72 ih_72 =>
        intro k72 bv f72 gb72 hk72 hpre hR hmu_72 H locs ls V hl
        refine lv_iload hx hb dX8_lays_72 (lv_at hl 0 rfl) ?_
        refine lv_aload_n hx hb dX8_lays_74 rfl (lv_at hl 1 rfl) ?_
        refine g_get hC V (ci := 8) uwX8 0 rfl rfl 1 (by decide) w_913 rfl rfl dX8_lays_75 ?_
        refine lv_iconst (v := (nI 0)) hx hb dX8_lays_78 (by decide +kernel) ?_
        refine g_iald hC V 1 rfl (vp_in_nI (by decide) (by decide)) (v := (nI n)) (by rw [nI_clamp (by decide)]; first | rfl | exact h_a.2.1) dX8_lays_79 ?_
        refine lv_icmp_ge (tgt := 132) hx hb dX8_lays_80 (by decide) (fun c_3 => ?_) (fun c_3 => ?_)
        · skip
          have c_3 := b_le (by omega) (by omega) c_3
          exact g_vret (Qr := (q_m_laysf2 T pp so_ n o u sum w0 g1 g2 g3 g4 tp w6 w7 w8 w9 w10 w11 w12 w13 w14 g15 w16 g17 w18 w19 g20 w21 g22 g23 g24 w25 w26 w27 g28 g29 w30 g31 g32 g33 fa fo fp)) hC V ⟨(Nat.le_of_ble_eq_true rfl), (Nat.le_of_ble_eq_true rfl)⟩ ⟨bv, f72, gb72, rfl, rfl, hpre, (by rw [show n - 2 = (n - 3) + 1 by omega]; have q := hR; rw [show k72 = n by omega] at q; exact q)⟩ dX8_lays_132
        · skip
          have c_3 := b_nle (by omega) (by omega) c_3
          refine lv_iload_n hx hb dX8_lays_83 rfl (lv_at hl 3 rfl) ?_
          refine lv_i2l (v := (nI u).toInt64) hx hb dX8_lays_84 rfl ?_
          refine lv_iload hx hb dX8_lays_85 (lv_at hl 0 rfl) ?_
          refine g_callSU (nA := 2) hC V hl.1 (m_isIn7 l D T u k72 h_ub.1 (by omega)) w_1130 w_1131 w_9 w_1132 (by decide +kernel) rfl ⟨(Nat.le_of_ble_eq_true rfl), (Nat.le_of_ble_eq_true rfl)⟩ [] rfl rfl (Nat.le_of_ble_eq_true rfl) dX8_lays_87 ⟨(Nat.le_of_ble_eq_true rfl), (Nat.le_of_ble_eq_true rfl)⟩ rfl (fun r w1 H locs hQ V => ?_)
          rcases hQ with ⟨rfl, rfl, f_4⟩ | ⟨rfl, rfl, f_5⟩
          · have V : gW D T A s [(o, .inr (8, [.int w0, .ref g1, .ref g2, .ref g3, .ref g4, .int (nI tp), .int w6, .int w7, .int w8, .int w9, .int w10, .int w11, .int w12, .int w13, .int w14, .ref g15, .int w16, .ref g17, .int w18, .int w19, .ref g20, .int w21, .ref g22, .ref g23, .ref g24, .int w25, .int w26, .int w27, .ref g28, .ref g29, .int bv, .ref g31, .ref g32, .ref g33])), (g1, .inl (T 0, 282, .inl fa)), (g28, .inl (T 0, 7, .inl f72)), (g29, .inl (T 0, 7, .inl gb72))] H locs := V _ [] rfl rfl rfl (by decide +kernel) rfl
            show W p l e _ s m args below meth c H locs _ _ _ (F0 m 90 ls [.int (nI 1)])
            refine lv_if_eq (tgt := 96) hx hb dX8_lays_90 (by decide) (fun c => absurd (show (nI 1) = 0 from c) (by decide +kernel)) (fun _ => ?_)
            refine lv_goto (tgt := 126) hx hb dX8_lays_93 (by decide) ?_
            refine lv_iinc (v := (nI (k72 + 1))) (lv' := [(4, .int (nI (k72 + 1))), (0, .ref o), (1, .int (nI 2)), (2, .int (nI u)), (3, .int sum)]) hx hb dX8_lays_126 hl (k := 0) rfl (nI_1 _) (by decide) rfl (fun ls hl => ?_)
            refine lv_goto (tgt := 72) hx hb dX8_lays_129 (by decide) ?_
            exact ih_72 (k72 + 1) bv f72 gb72 (by omega) (by assumption) (by rw [gak_n ((h_us k72 (by omega)).mp f_4)]; exact hR) (by omega) _ _ _ V (lv_sub hl [0, 1, 2, 3, 4] rfl)
          · have V : gW D T A s [(o, .inr (8, [.int w0, .ref g1, .ref g2, .ref g3, .ref g4, .int (nI tp), .int w6, .int w7, .int w8, .int w9, .int w10, .int w11, .int w12, .int w13, .int w14, .ref g15, .int w16, .ref g17, .int w18, .int w19, .ref g20, .int w21, .ref g22, .ref g23, .ref g24, .int w25, .int w26, .int w27, .ref g28, .ref g29, .int bv, .ref g31, .ref g32, .ref g33])), (g1, .inl (T 0, 282, .inl fa)), (g28, .inl (T 0, 7, .inl f72)), (g29, .inl (T 0, 7, .inl gb72))] H locs := V _ [] rfl rfl rfl (by decide +kernel) rfl
            show W p l e _ s m args below meth c H locs _ _ _ (F0 m 90 ls [.int (nI 0)])
            refine lv_if_eq (tgt := 96) hx hb dX8_lays_90 (by decide) (fun _ => ?_) (fun c => absurd (show (nI 0) = 0 by decide +kernel) c)
            refine lv_aload_n hx hb dX8_lays_96 rfl (lv_at hl 1 rfl) ?_
            refine g_get hC V (ci := 8) uwX8 0 rfl rfl 28 (by decide) w_940 rfl rfl dX8_lays_97 ?_
            refine lv_iload_n hx hb dX8_lays_100 rfl (lv_at hl 2 rfl) ?_
            refine lv_iload hx hb dX8_lays_101 (lv_at hl 0 rfl) ?_
            refine g_iast hC V 2 rfl (vp_in_nI (by decide) (by decide)) (f' := (upd f72 2 (nI k72))) (by rw [nI_clamp (by decide)]) (ws' := [(o, .inr (8, [.int w0, .ref g1, .ref g2, .ref g3, .ref g4, .int (nI tp), .int w6, .int w7, .int w8, .int w9, .int w10, .int w11, .int w12, .int w13, .int w14, .ref g15, .int w16, .ref g17, .int w18, .int w19, .ref g20, .int w21, .ref g22, .ref g23, .ref g24, .int w25, .int w26, .int w27, .ref g28, .ref g29, .int bv, .ref g31, .ref g32, .ref g33])), (g1, .inl (T 0, 282, .inl fa)), (g28, .inl (T 0, 7, .inl (upd f72 2 (nI k72)))), (g29, .inl (T 0, 7, .inl gb72))]) rfl dX8_lays_103 (fun H locs V => ?_)
            refine lv_aload_n hx hb dX8_lays_104 rfl (lv_at hl 1 rfl) ?_
            refine lv_iload_n hx hb dX8_lays_105 rfl (lv_at hl 2 rfl) ?_
            refine lv_iconst (v := (nI 1)) hx hb dX8_lays_106 (by decide +kernel) ?_
            refine lv_iadd hx hb dX8_lays_107 ?_
            refine g_vi (y := (nI 3)) (by decide +kernel) ?_
            refine lv_iload_n hx hb dX8_lays_108 rfl (lv_at hl 3 rfl) ?_
            refine lv_iconst (v := (nI 1)) hx hb dX8_lays_109 (by decide +kernel) ?_
            refine lv_iload hx hb dX8_lays_110 (lv_at hl 0 rfl) ?_
            refine lv_ishl hx hb dX8_lays_112 ?_
            refine g_vi (y := (nI (2 ^ k72))) (shl_pow (by omega)) ?_
            refine lv_ior hx hb dX8_lays_113 ?_
            refine g_vi (y := nI (u ||| (2 ^ k72))) (or7 (by omega) (by omega)) ?_
            refine lv_iload_n hx hb dX8_lays_114 rfl (lv_at hl 4 rfl) ?_
            refine lv_aload_n hx hb dX8_lays_115 rfl (lv_at hl 1 rfl) ?_
            refine lv_iload_n hx hb dX8_lays_116 rfl (lv_at hl 2 rfl) ?_
            refine lv_iload hx hb dX8_lays_117 (lv_at hl 0 rfl) ?_
            refine g_callVU (nA := 2) hC V hl.1 (m_offBy_f l D T o 2 k72 w0 g1 g2 g3 g4 tp w6 w7 w8 w9 w10 w11 w12 w13 w14 g15 w16 g17 w18 w19 g20 w21 g22 g23 g24 w25 w26 w27 g28 g29 bv g31 g32 g33 fa (by omega) (by omega)) w_1328 w_1330 w_s77 w_9 w_1331 (by decide +kernel) rfl ⟨(Nat.le_of_ble_eq_true rfl), (Nat.le_of_ble_eq_true rfl)⟩ 0 (ci := 8) rfl rfl [0, 1] rfl rfl (Nat.le_of_ble_eq_true rfl) dX8_lays_119 ⟨(Nat.le_of_ble_eq_true rfl), (Nat.le_of_ble_eq_true rfl)⟩ rfl (fun r w1 H locs hQ V => ?_)
            obtain ⟨z_6, rfl, rfl, f_7⟩ := hQ
            have V : gW D T A s [(o, .inr (8, [.int w0, .ref g1, .ref g2, .ref g3, .ref g4, .int (nI tp), .int w6, .int w7, .int w8, .int w9, .int w10, .int w11, .int w12, .int w13, .int w14, .ref g15, .int w16, .ref g17, .int w18, .int w19, .ref g20, .int w21, .ref g22, .ref g23, .ref g24, .int w25, .int w26, .int w27, .ref g28, .ref g29, .int bv, .ref g31, .ref g32, .ref g33])), (g1, .inl (T 0, 282, .inl fa)), (g28, .inl (T 0, 7, .inl (upd f72 2 (nI k72)))), (g29, .inl (T 0, 7, .inl gb72))] H locs := V _ [0, 0] rfl rfl rfl (by decide +kernel) rfl
            show W p l e _ s m args below meth c H locs _ _ _ (F0 m 122 ls [.int z_6, .int sum, .int (nI (u ||| (2 ^ k72))), .int (nI 3), .ref o])
            refine lv_iadd hx hb dX8_lays_122 ?_
            refine g_callV (wr := []) (nA := 3) hC V hl.1 (m_laysf3 l D T (pp ++ [k72]) ((gaK n (n - 3) pp k72).foldl (upR n fa) so_) n o (u ||| (2 ^ k72)) (sum + z_6) w0 g1 g2 g3 g4 tp w6 w7 w8 w9 w10 w11 w12 w13 w14 g15 w16 g17 w18 w19 g20 w21 g22 g23 g24 w25 w26 w27 g28 g29 bv g31 g32 g33 fa (upd f72 2 (nI k72)) gb72 h_a (li_put (li_ext h_li hpre) (by omega) (ub_free (ub_ext h_ub hpre) (by assumption))) (lt_put h_lt hpre (by omega) h_7) (ub_put (ub_ext h_ub hpre) (by omega)) h_1 h_7 (by omega) (pf_s (pf_e h_pp hpre) (by omega)) (ur_s h_us) (sqz_s h_a (by omega) (by omega) h_sum h_pp.1 f_7) (sqz_b h_a (by omega) (by omega) h_sb h_pp.1) hR) w_1320 w_1322 w_s75 w_9 w_1323 (by decide +kernel) rfl ⟨(Nat.le_of_ble_eq_true rfl), (Nat.le_of_ble_eq_true rfl)⟩ 0 (ci := 8) rfl rfl [0, 1, 2, 3] [] rfl rfl rfl rfl (by decide) (Nat.le_of_ble_eq_true rfl) dX8_lays_123 ⟨(Nat.le_of_ble_eq_true rfl), (Nat.le_of_ble_eq_true rfl)⟩ rfl (fun r w1 H locs hQ V => ?_)
            obtain ⟨bs_8, go_9, gp_10, rfl, rfl, f_11, f_12⟩ := hQ
            have V : gW D T A s [(o, .inr (8, [.int w0, .ref g1, .ref g2, .ref g3, .ref g4, .int (nI tp), .int w6, .int w7, .int w8, .int w9, .int w10, .int w11, .int w12, .int w13, .int w14, .ref g15, .int w16, .ref g17, .int w18, .int w19, .ref g20, .int w21, .ref g22, .ref g23, .ref g24, .int w25, .int w26, .int w27, .ref g28, .ref g29, .int bs_8, .ref g31, .ref g32, .ref g33])), (g1, .inl (T 0, 282, .inl fa)), (g28, .inl (T 0, 7, .inl go_9)), (g29, .inl (T 0, 7, .inl gp_10))] H locs := V
            show W p l e _ s m args below meth c H locs _ _ _ (F0 m 126 ls [])
            have hpre2 : ∀ j, j < 2 → go_9 j = fo j := fun j hj => (f_11 j (by omega)).trans ((up_other (by omega)).trans (hpre j hj))
            refine lv_iinc (v := (nI (k72 + 1))) (lv' := [(4, .int (nI (k72 + 1))), (0, .ref o), (1, .int (nI 2)), (2, .int (nI u)), (3, .int sum)]) hx hb dX8_lays_126 hl (k := 0) rfl (nI_1 _) (by decide) rfl (fun ls hl => ?_)
            refine lv_goto (tgt := 72) hx hb dX8_lays_129 (by decide) ?_
            exact ih_72 (k72 + 1) bs_8 go_9 gp_10 (by omega) (by assumption) (by rw [gak_y (fun r => by have q := (h_us k72 (by omega)).mpr r; rw [f_5] at q; cases q), List.foldl_append]; exact f_12) (by omega) _ _ _ V (lv_sub hl [0, 1, 2, 3, 4] rfl)
    exact L_2 _ 0 w30 fo fp (by omega) (fun _ _ => rfl) h_st (Nat.lt_succ_self _) _ _ _ V (lv_sub hl [0, 1, 2, 3, 4] rfl)
  · skip
    have c_1 := b_eq (by omega) (by omega) c_1
    have hkn : 2 = n := c_1
    refine lv_aload_n hx hb dX8_lays_10 rfl (lv_at hl 0 rfl) ?_
    refine g_callVU (nA := 0) hC V hl.1 (m_isOneRing_f l D T pp n o w0 g1 g2 g3 g4 tp w6 w7 w8 w9 w10 w11 w12 w13 w14 g15 w16 g17 w18 w19 g20 w21 g22 g23 g24 w25 w26 w27 g28 g29 w30 g31 g32 g33 fa fo h_a (lf_of h_li h_lt (by omega)) h_1 h_7 (by have q := h_pp; rw [show 2 = n by omega] at q; exact q)) w_1324 w_1326 w_s76 w_9 w_1327 (by decide +kernel) rfl ⟨(Nat.le_of_ble_eq_true rfl), (Nat.le_of_ble_eq_true rfl)⟩ 0 (ci := 8) rfl rfl [0, 1, 2] rfl rfl (Nat.le_of_ble_eq_true rfl) dX8_lays_11 ⟨(Nat.le_of_ble_eq_true rfl), (Nat.le_of_ble_eq_true rfl)⟩ rfl (fun r w1 H locs hQ V => ?_)
    rcases hQ with ⟨rfl, rfl, f_13⟩ | ⟨rfl, rfl, f_14⟩
    · have V : gW D T A s [(o, .inr (8, [.int w0, .ref g1, .ref g2, .ref g3, .ref g4, .int (nI tp), .int w6, .int w7, .int w8, .int w9, .int w10, .int w11, .int w12, .int w13, .int w14, .ref g15, .int w16, .ref g17, .int w18, .int w19, .ref g20, .int w21, .ref g22, .ref g23, .ref g24, .int w25, .int w26, .int w27, .ref g28, .ref g29, .int w30, .ref g31, .ref g32, .ref g33])), (g1, .inl (T 0, 282, .inl fa)), (g28, .inl (T 0, 7, .inl fo)), (g29, .inl (T 0, 7, .inl fp))] H locs := V _ [0, 0, 0] rfl rfl rfl (by decide +kernel) rfl
      show W p l e _ s m args below meth c H locs _ _ _ (F0 m 14 ls [.int (nI 1)])
      refine lv_if_eq (tgt := 33) hx hb dX8_lays_14 (by decide) (fun c => absurd (show (nI 1) = 0 from c) (by decide +kernel)) (fun _ => ?_)
      refine lv_aload_n hx hb dX8_lays_17 rfl (lv_at hl 0 rfl) ?_
      refine g_get hC V (ci := 8) uwX8 0 rfl rfl 30 (by decide) w_942 rfl rfl dX8_lays_18 ?_
      refine lv_iconst (v := (-1)) hx hb dX8_lays_21 (by decide +kernel) ?_
      refine lv_icmp_eq (tgt := 34) hx hb dX8_lays_22 (by decide) (fun c_15 => ?_) (fun c_15 => ?_)
      · skip
        refine lv_aload_n hx hb dX8_lays_34 rfl (lv_at hl 0 rfl) ?_
        refine lv_iload_n hx hb dX8_lays_35 rfl (lv_at hl 3 rfl) ?_
        refine g_put hC V (ci := 8) uwX8 tyX8 tyX8_ok nmX8 0 rfl rfl 30 (by decide) w_942 rfl rfl rfl rfl (Nat.le_of_ble_eq_true rfl) (ws' := [(o, .inr (8, [.int w0, .ref g1, .ref g2, .ref g3, .ref g4, .int (nI tp), .int w6, .int w7, .int w8, .int w9, .int w10, .int w11, .int w12, .int w13, .int w14, .ref g15, .int w16, .ref g17, .int w18, .int w19, .ref g20, .int w21, .ref g22, .ref g23, .ref g24, .int w25, .int w26, .int w27, .ref g28, .ref g29, .int sum, .ref g31, .ref g32, .ref g33])), (g1, .inl (T 0, 282, .inl fa)), (g28, .inl (T 0, 7, .inl fo)), (g29, .inl (T 0, 7, .inl fp))]) rfl dX8_lays_36 (fun H locs V => ?_)
        refine lv_iconst (v := (nI 0)) hx hb dX8_lays_39 (by decide +kernel) ?_
        refine lv_istore (lv' := [(4, .int (nI 0)), (0, .ref o), (1, .int (nI 2)), (2, .int (nI u)), (3, .int sum)]) hx hb dX8_lays_40 hl (by decide) rfl (fun ls hl => ?_)
        have L_16 : ∀ (fu : Nat) (k42 : Nat) (gb42 : Nat → Int32), k42 ≤ 2 → (∀ j, j < k42 → gb42 j = fo j) → 2 - k42 < fu → ∀ (H : Heap) (locs : List Loc) (ls : Array Slot), gW D T A s [(o, .inr (8, [.int w0, .ref g1, .ref g2, .ref g3, .ref g4, .int (nI tp), .int w6, .int w7, .int w8, .int w9, .int w10, .int w11, .int w12, .int w13, .int w14, .ref g15, .int w16, .ref g17, .int w18, .int w19, .ref g20, .int w21, .ref g22, .ref g23, .ref g24, .int w25, .int w26, .int w27, .ref g28, .ref g29, .int sum, .ref g31, .ref g32, .ref g33])), (g1, .inl (T 0, 282, .inl fa)), (g28, .inl (T 0, 7, .inl fo)), (g29, .inl (T 0, 7, .inl gb42))] H locs → lv_has ls 5 [(4, .int (nI k42)), (0, .ref o), (1, .int (nI 2)), (2, .int (nI u)), (3, .int sum)] → W p l e (rmD 7 0 0) s m args below meth c H locs 0 0 (MQ below (gQ D A (q_m_laysf2 T pp so_ n o u sum w0 g1 g2 g3 g4 tp w6 w7 w8 w9 w10 w11 w12 w13 w14 g15 w16 g17 w18 w19 g20 w21 g22 g23 g24 w25 w26 w27 g28 g29 w30 g31 g32 g33 fa fo fp)) args s 0 0 A) (F0 m 42 ls []) := by
          intro fu_42
          induction fu_42 with
          | zero => intro k42 gb42 hk42 hcb hmu; exact absurd hmu (Nat.not_lt_zero _)
          | succ fu_42 ih_42 =>
            intro k42 gb42 hk42 hcb hmu_42 H locs ls V hl
            refine lv_iload hx hb dX8_lays_42 (lv_at hl 0 rfl) ?_
            refine lv_iload_n hx hb dX8_lays_44 rfl (lv_at hl 2 rfl) ?_
            refine lv_icmp_ge (tgt := 68) hx hb dX8_lays_45 (by decide) (fun c_17 => ?_) (fun c_17 => ?_)
            · skip
              have c_17 := b_le (by omega) (by omega) c_17
              exact g_vret (Qr := (q_m_laysf2 T pp so_ n o u sum w0 g1 g2 g3 g4 tp w6 w7 w8 w9 w10 w11 w12 w13 w14 g15 w16 g17 w18 w19 g20 w21 g22 g23 g24 w25 w26 w27 g28 g29 w30 g31 g32 g33 fa fo fp)) hC V ⟨(Nat.le_of_ble_eq_true rfl), (Nat.le_of_ble_eq_true rfl)⟩ ⟨sum, fo, gb42, rfl, rfl, (fun _ _ => rfl), (by rw [show n - 2 = 0 by omega]; show RST n fa (upR n fa so_ pp) _ _; rw [ur_y f_13]; exact (rs_up h_st h_sum (by omega) (Or.inl c_15) (fun i hi => (hcb i (by omega)).trans (h_pp.2 i (by omega)).1)))⟩ dX8_lays_68
            · skip
              have c_17 := b_nle (by omega) (by omega) c_17
              refine lv_aload_n hx hb dX8_lays_48 rfl (lv_at hl 1 rfl) ?_
              refine g_get hC V (ci := 8) uwX8 0 rfl rfl 29 (by decide) w_941 rfl rfl dX8_lays_49 ?_
              refine lv_iload hx hb dX8_lays_52 (lv_at hl 0 rfl) ?_
              refine lv_aload_n hx hb dX8_lays_54 rfl (lv_at hl 1 rfl) ?_
              refine g_get hC V (ci := 8) uwX8 0 rfl rfl 28 (by decide) w_940 rfl rfl dX8_lays_55 ?_
              refine lv_iload hx hb dX8_lays_58 (lv_at hl 0 rfl) ?_
              refine g_iald hC V 2 rfl (vp_in_nI (by omega) (by omega)) (v := (fo k42)) (congrArg _ (nI_clamp (by omega))) dX8_lays_60 ?_
              refine g_iast hC V 3 rfl (vp_in_nI (by omega) (by omega)) (f' := (upd gb42 k42 (fo k42))) (by rw [nI_clamp (by omega)]) (ws' := [(o, .inr (8, [.int w0, .ref g1, .ref g2, .ref g3, .ref g4, .int (nI tp), .int w6, .int w7, .int w8, .int w9, .int w10, .int w11, .int w12, .int w13, .int w14, .ref g15, .int w16, .ref g17, .int w18, .int w19, .ref g20, .int w21, .ref g22, .ref g23, .ref g24, .int w25, .int w26, .int w27, .ref g28, .ref g29, .int sum, .ref g31, .ref g32, .ref g33])), (g1, .inl (T 0, 282, .inl fa)), (g28, .inl (T 0, 7, .inl fo)), (g29, .inl (T 0, 7, .inl (upd gb42 k42 (fo k42))))]) rfl dX8_lays_61 (fun H locs V => ?_)
              refine lv_iinc (v := (nI (k42 + 1))) (lv' := [(4, .int (nI (k42 + 1))), (0, .ref o), (1, .int (nI 2)), (2, .int (nI u)), (3, .int sum)]) hx hb dX8_lays_62 hl (k := 0) rfl (nI_1 _) (by decide) rfl (fun ls hl => ?_)
              refine lv_goto (tgt := 42) hx hb dX8_lays_65 (by decide) ?_
              exact ih_42 (k42 + 1) (upd gb42 k42 (fo k42)) (by omega) (up_one (p := fun j x => x = fo j) hcb rfl) (by omega) _ _ _ V (lv_sub hl [0, 1, 2, 3, 4] rfl)
        exact L_16 _ 0 fp (by omega) (fun i h => absurd h (Nat.not_lt_zero _)) (Nat.lt_succ_self _) _ _ _ V (lv_sub hl [0, 1, 2, 3, 4] rfl)
      · skip
        refine lv_iload_n hx hb dX8_lays_25 rfl (lv_at hl 3 rfl) ?_
        refine lv_aload_n hx hb dX8_lays_26 rfl (lv_at hl 0 rfl) ?_
        refine g_get hC V (ci := 8) uwX8 0 rfl rfl 30 (by decide) w_942 rfl rfl dX8_lays_27 ?_
        refine lv_icmp_lt (tgt := 34) hx hb dX8_lays_30 (by decide) (fun c_18 => ?_) (fun c_18 => ?_)
        · skip
          refine lv_aload_n hx hb dX8_lays_34 rfl (lv_at hl 0 rfl) ?_
          refine lv_iload_n hx hb dX8_lays_35 rfl (lv_at hl 3 rfl) ?_
          refine g_put hC V (ci := 8) uwX8 tyX8 tyX8_ok nmX8 0 rfl rfl 30 (by decide) w_942 rfl rfl rfl rfl (Nat.le_of_ble_eq_true rfl) (ws' := [(o, .inr (8, [.int w0, .ref g1, .ref g2, .ref g3, .ref g4, .int (nI tp), .int w6, .int w7, .int w8, .int w9, .int w10, .int w11, .int w12, .int w13, .int w14, .ref g15, .int w16, .ref g17, .int w18, .int w19, .ref g20, .int w21, .ref g22, .ref g23, .ref g24, .int w25, .int w26, .int w27, .ref g28, .ref g29, .int sum, .ref g31, .ref g32, .ref g33])), (g1, .inl (T 0, 282, .inl fa)), (g28, .inl (T 0, 7, .inl fo)), (g29, .inl (T 0, 7, .inl fp))]) rfl dX8_lays_36 (fun H locs V => ?_)
          refine lv_iconst (v := (nI 0)) hx hb dX8_lays_39 (by decide +kernel) ?_
          refine lv_istore (lv' := [(4, .int (nI 0)), (0, .ref o), (1, .int (nI 2)), (2, .int (nI u)), (3, .int sum)]) hx hb dX8_lays_40 hl (by decide) rfl (fun ls hl => ?_)
          have L_19 : ∀ (fu : Nat) (k42 : Nat) (gb42 : Nat → Int32), k42 ≤ 2 → (∀ j, j < k42 → gb42 j = fo j) → 2 - k42 < fu → ∀ (H : Heap) (locs : List Loc) (ls : Array Slot), gW D T A s [(o, .inr (8, [.int w0, .ref g1, .ref g2, .ref g3, .ref g4, .int (nI tp), .int w6, .int w7, .int w8, .int w9, .int w10, .int w11, .int w12, .int w13, .int w14, .ref g15, .int w16, .ref g17, .int w18, .int w19, .ref g20, .int w21, .ref g22, .ref g23, .ref g24, .int w25, .int w26, .int w27, .ref g28, .ref g29, .int sum, .ref g31, .ref g32, .ref g33])), (g1, .inl (T 0, 282, .inl fa)), (g28, .inl (T 0, 7, .inl fo)), (g29, .inl (T 0, 7, .inl gb42))] H locs → lv_has ls 5 [(4, .int (nI k42)), (0, .ref o), (1, .int (nI 2)), (2, .int (nI u)), (3, .int sum)] → W p l e (rmD 7 0 0) s m args below meth c H locs 0 0 (MQ below (gQ D A (q_m_laysf2 T pp so_ n o u sum w0 g1 g2 g3 g4 tp w6 w7 w8 w9 w10 w11 w12 w13 w14 g15 w16 g17 w18 w19 g20 w21 g22 g23 g24 w25 w26 w27 g28 g29 w30 g31 g32 g33 fa fo fp)) args s 0 0 A) (F0 m 42 ls []) := by
            intro fu_42
            induction fu_42 with
            | zero => intro k42 gb42 hk42 hcb hmu; exact absurd hmu (Nat.not_lt_zero _)
            | succ fu_42 ih_42 =>
              intro k42 gb42 hk42 hcb hmu_42 H locs ls V hl
              refine lv_iload hx hb dX8_lays_42 (lv_at hl 0 rfl) ?_
              refine lv_iload_n hx hb dX8_lays_44 rfl (lv_at hl 2 rfl) ?_
              refine lv_icmp_ge (tgt := 68) hx hb dX8_lays_45 (by decide) (fun c_20 => ?_) (fun c_20 => ?_)
              · skip
                have c_20 := b_le (by omega) (by omega) c_20
                exact g_vret (Qr := (q_m_laysf2 T pp so_ n o u sum w0 g1 g2 g3 g4 tp w6 w7 w8 w9 w10 w11 w12 w13 w14 g15 w16 g17 w18 w19 g20 w21 g22 g23 g24 w25 w26 w27 g28 g29 w30 g31 g32 g33 fa fo fp)) hC V ⟨(Nat.le_of_ble_eq_true rfl), (Nat.le_of_ble_eq_true rfl)⟩ ⟨sum, fo, gb42, rfl, rfl, (fun _ _ => rfl), (by rw [show n - 2 = 0 by omega]; show RST n fa (upR n fa so_ pp) _ _; rw [ur_y f_13]; exact (rs_up h_st h_sum (by omega) (Or.inr c_18) (fun i hi => (hcb i (by omega)).trans (h_pp.2 i (by omega)).1)))⟩ dX8_lays_68
              · skip
                have c_20 := b_nle (by omega) (by omega) c_20
                refine lv_aload_n hx hb dX8_lays_48 rfl (lv_at hl 1 rfl) ?_
                refine g_get hC V (ci := 8) uwX8 0 rfl rfl 29 (by decide) w_941 rfl rfl dX8_lays_49 ?_
                refine lv_iload hx hb dX8_lays_52 (lv_at hl 0 rfl) ?_
                refine lv_aload_n hx hb dX8_lays_54 rfl (lv_at hl 1 rfl) ?_
                refine g_get hC V (ci := 8) uwX8 0 rfl rfl 28 (by decide) w_940 rfl rfl dX8_lays_55 ?_
                refine lv_iload hx hb dX8_lays_58 (lv_at hl 0 rfl) ?_
                refine g_iald hC V 2 rfl (vp_in_nI (by omega) (by omega)) (v := (fo k42)) (congrArg _ (nI_clamp (by omega))) dX8_lays_60 ?_
                refine g_iast hC V 3 rfl (vp_in_nI (by omega) (by omega)) (f' := (upd gb42 k42 (fo k42))) (by rw [nI_clamp (by omega)]) (ws' := [(o, .inr (8, [.int w0, .ref g1, .ref g2, .ref g3, .ref g4, .int (nI tp), .int w6, .int w7, .int w8, .int w9, .int w10, .int w11, .int w12, .int w13, .int w14, .ref g15, .int w16, .ref g17, .int w18, .int w19, .ref g20, .int w21, .ref g22, .ref g23, .ref g24, .int w25, .int w26, .int w27, .ref g28, .ref g29, .int sum, .ref g31, .ref g32, .ref g33])), (g1, .inl (T 0, 282, .inl fa)), (g28, .inl (T 0, 7, .inl fo)), (g29, .inl (T 0, 7, .inl (upd gb42 k42 (fo k42))))]) rfl dX8_lays_61 (fun H locs V => ?_)
                refine lv_iinc (v := (nI (k42 + 1))) (lv' := [(4, .int (nI (k42 + 1))), (0, .ref o), (1, .int (nI 2)), (2, .int (nI u)), (3, .int sum)]) hx hb dX8_lays_62 hl (k := 0) rfl (nI_1 _) (by decide) rfl (fun ls hl => ?_)
                refine lv_goto (tgt := 42) hx hb dX8_lays_65 (by decide) ?_
                exact ih_42 (k42 + 1) (upd gb42 k42 (fo k42)) (by omega) (up_one (p := fun j x => x = fo j) hcb rfl) (by omega) _ _ _ V (lv_sub hl [0, 1, 2, 3, 4] rfl)
          exact L_19 _ 0 fp (by omega) (fun i h => absurd h (Nat.not_lt_zero _)) (Nat.lt_succ_self _) _ _ _ V (lv_sub hl [0, 1, 2, 3, 4] rfl)
        · skip
          exact g_vret (Qr := (q_m_laysf2 T pp so_ n o u sum w0 g1 g2 g3 g4 tp w6 w7 w8 w9 w10 w11 w12 w13 w14 g15 w16 g17 w18 w19 g20 w21 g22 g23 g24 w25 w26 w27 g28 g29 w30 g31 g32 g33 fa fo fp)) hC V ⟨(Nat.le_of_ble_eq_true rfl), (Nat.le_of_ble_eq_true rfl)⟩ ⟨w30, fo, fp, rfl, rfl, (fun _ _ => rfl), (by rw [show n - 2 = 0 by omega]; show RST n fa (upR n fa so_ pp) _ _; rw [ur_y f_13]; exact (rs_no h_st h_sum (by omega) c_15 c_18))⟩ dX8_lays_33
    · have V : gW D T A s [(o, .inr (8, [.int w0, .ref g1, .ref g2, .ref g3, .ref g4, .int (nI tp), .int w6, .int w7, .int w8, .int w9, .int w10, .int w11, .int w12, .int w13, .int w14, .ref g15, .int w16, .ref g17, .int w18, .int w19, .ref g20, .int w21, .ref g22, .ref g23, .ref g24, .int w25, .int w26, .int w27, .ref g28, .ref g29, .int w30, .ref g31, .ref g32, .ref g33])), (g1, .inl (T 0, 282, .inl fa)), (g28, .inl (T 0, 7, .inl fo)), (g29, .inl (T 0, 7, .inl fp))] H locs := V _ [0, 0, 0] rfl rfl rfl (by decide +kernel) rfl
      show W p l e _ s m args below meth c H locs _ _ _ (F0 m 14 ls [.int (nI 0)])
      refine lv_if_eq (tgt := 33) hx hb dX8_lays_14 (by decide) (fun _ => ?_) (fun c => absurd (show (nI 0) = 0 by decide +kernel) c)
      exact g_vret (Qr := (q_m_laysf2 T pp so_ n o u sum w0 g1 g2 g3 g4 tp w6 w7 w8 w9 w10 w11 w12 w13 w14 g15 w16 g17 w18 w19 g20 w21 g22 g23 g24 w25 w26 w27 g28 g29 w30 g31 g32 g33 fa fo fp)) hC V ⟨(Nat.le_of_ble_eq_true rfl), (Nat.le_of_ble_eq_true rfl)⟩ ⟨w30, fo, fp, rfl, rfl, (fun _ _ => rfl), (by rw [show n - 2 = 0 by omega]; show RST n fa (upR n fa so_ pp) _ _; rw [ur_n f_14]; exact h_st)⟩ dX8_lays_33

def q_m_laysf1 (T : Nat → ClassId) (pp : List Nat) (so_ : Option (List Nat)) (n : Nat) (o : Nat) (u : Nat) (sum : Int32) (w0 : Int32) (g1 : Nat) (g2 : Nat) (g3 : Nat) (g4 : Nat) (tp : Nat) (w6 : Int32) (w7 : Int32) (w8 : Int32) (w9 : Int32) (w10 : Int32) (w11 : Int32) (w12 : Int32) (w13 : Int32) (w14 : Int32) (g15 : Nat) (w16 : Int32) (g17 : Nat) (w18 : Int32) (w19 : Int32) (g20 : Nat) (w21 : Int32) (g22 : Nat) (g23 : Nat) (g24 : Nat) (w25 : Int32) (w26 : Int32) (w27 : Int32) (g28 : Nat) (g29 : Nat) (w30 : Int32) (g31 : Nat) (g32 : Nat) (g33 : Nat) (fa : Nat → Int32) (fo : Nat → Int32) (fp : Nat → Int32) : Option Value → va_W → Prop := fun rr ww => (∃ (bs : Int32) (go : Nat → Int32) (gp : Nat → Int32), rr = none ∧ ww = [(o, .inr (8, [.int w0, .ref g1, .ref g2, .ref g3, .ref g4, .int (nI tp), .int w6, .int w7, .int w8, .int w9, .int w10, .int w11, .int w12, .int w13, .int w14, .ref g15, .int w16, .ref g17, .int w18, .int w19, .ref g20, .int w21, .ref g22, .ref g23, .ref g24, .int w25, .int w26, .int w27, .ref g28, .ref g29, .int bs, .ref g31, .ref g32, .ref g33])), (g1, .inl (T 0, 282, .inl fa)), (g28, .inl (T 0, 7, .inl go)), (g29, .inl (T 0, 7, .inl gp))] ∧ (∀ j, j < 1 → go j = fo j) ∧ RST n fa ((gA n (n - 1) pp).foldl (upR n fa) so_) bs gp)
set_option maxHeartbeats 4000000 in
set_option maxRecDepth 100000 in
theorem m_laysf1 (l : Launch) (D : va_G) (T : Nat → ClassId) (pp : List Nat) (so_ : Option (List Nat)) (n : Nat) (o : Nat) (u : Nat) (sum : Int32) (w0 : Int32) (g1 : Nat) (g2 : Nat) (g3 : Nat) (g4 : Nat) (tp : Nat) (w6 : Int32) (w7 : Int32) (w8 : Int32) (w9 : Int32) (w10 : Int32) (w11 : Int32) (w12 : Int32) (w13 : Int32) (w14 : Int32) (g15 : Nat) (w16 : Int32) (g17 : Nat) (w18 : Int32) (w19 : Int32) (g20 : Nat) (w21 : Int32) (g22 : Nat) (g23 : Nat) (g24 : Nat) (w25 : Int32) (w26 : Int32) (w27 : Int32) (g28 : Nat) (g29 : Nat) (w30 : Int32) (g31 : Nat) (g32 : Nat) (g33 : Nat) (fa : Nat → Int32) (fo : Nat → Int32) (fp : Nat → Int32) (h_a : MI n fa) (h_li : LI 1 fo) (h_lt : ∀ j, j < 1 → toF fo j < n) (h_ub : UB 1 u fo) (h_1 : 1 ≤ n) (h_7 : n ≤ 7) (h_kn : 1 ≤ n) (h_pp : PFX n pp 1 fo) (h_us : USR pp u) (h_sum : sum = nI (smL fa 0 pp)) (h_sb : smL fa 0 pp ≤ 60 * 1) (h_st : RST n fa so_ w30 fp) : Ct l yX8_lays cX8_lays 5 none 8 0 0 D T [.ref o, .int (nI 1), .int (nI u), .int sum] [(o, .inr (8, [.int w0, .ref g1, .ref g2, .ref g3, .ref g4, .int (nI tp), .int w6, .int w7, .int w8, .int w9, .int w10, .int w11, .int w12, .int w13, .int w14, .ref g15, .int w16, .ref g17, .int w18, .int w19, .ref g20, .int w21, .ref g22, .ref g23, .ref g24, .int w25, .int w26, .int w27, .ref g28, .ref g29, .int w30, .ref g31, .ref g32, .ref g33])), (g1, .inl (T 0, 282, .inl fa)), (g28, .inl (T 0, 7, .inl fo)), (g29, .inl (T 0, 7, .inl fp))] (q_m_laysf1 T pp so_ n o u sum w0 g1 g2 g3 g4 tp w6 w7 w8 w9 w10 w11 w12 w13 w14 g15 w16 g17 w18 w19 g20 w21 g22 g23 g24 w25 w26 w27 g28 g29 w30 g31 g32 g33 fa fo fp) := by
  refine Ct.of (cc := cX8_lays) (maxL := 5) (ret := none) (by decide) (Nat.le_of_ble_eq_true rfl) ?_
  intro p e s m args below meth c A ls hC hnm V hl
  obtain ⟨hx, hb, hr, hml, hown, hts, hlocks⟩ := id hC
  generalize hH : s.heap = H at V ⊢
  clear hH
  have hl : lv_has ls 5 [(0, .ref o), (1, .int (nI 1)), (2, .int (nI u)), (3, .int sum)] := hl
  generalize hlo : ([] : List Loc) = locs at V ⊢
  clear hlo
  have ms0 := ms_rf h_a
  have hn10 := h_a.1
  have hu := h_ub.1
  refine lv_iload_n hx hb dX8_lays_0 rfl (lv_at hl 1 rfl) ?_
  refine lv_aload_n hx hb dX8_lays_1 rfl (lv_at hl 0 rfl) ?_
  refine g_get hC V (ci := 8) uwX8 0 rfl rfl 1 (by decide) w_913 rfl rfl dX8_lays_2 ?_
  refine lv_iconst (v := (nI 0)) hx hb dX8_lays_5 (by decide +kernel) ?_
  refine g_iald hC V 1 rfl (vp_in_nI (by decide) (by decide)) (v := (nI n)) (by rw [nI_clamp (by decide)]; first | rfl | exact h_a.2.1) dX8_lays_6 ?_
  refine lv_icmp_ne (tgt := 69) hx hb dX8_lays_7 (by decide) (fun c_1 => ?_) (fun c_1 => ?_)
  · skip
    have c_1 := b_ne (by omega) (by omega) c_1
    refine lv_iconst (v := (nI 0)) hx hb dX8_lays_69 (by decide +kernel) ?_
    refine lv_istore (lv' := [(4, .int (nI 0)), (0, .ref o), (1, .int (nI 1)), (2, .int (nI u)), (3, .int sum)]) hx hb dX8_lays_70 hl (by decide) rfl (fun ls hl => ?_)
    have L_2 : ∀ (fu : Nat) (k72 : Nat) (bv : Int32) (f72 : Nat → Int32) (gb72 : Nat → Int32), k72 ≤ n → (∀ j, j < 1 → f72 j = fo j) → RST n fa ((gaK n (n - 2) pp k72).foldl (upR n fa) so_) bv gb72 → n - k72 < fu → ∀ (H : Heap) (locs : List Loc) (ls : Array Slot), gW D T A s [(o, .inr (8, [.int w0, .ref g1, .ref g2, .ref g3, .ref g4, .int (nI tp), .int w6, .int w7, .int w8, .int w9, .int w10, .int w11, .int w12, .int w13, .int w14, .ref g15, .int w16, .ref g17, .int w18, .int w19, .ref g20, .int w21, .ref g22, .ref g23, .ref g24, .int w25, .int w26, .int w27, .ref g28, .ref g29, .int bv, .ref g31, .ref g32, .ref g33])), (g1, .inl (T 0, 282, .inl fa)), (g28, .inl (T 0, 7, .inl f72)), (g29, .inl (T 0, 7, .inl gb72))] H locs → lv_has ls 5 [(4, .int (nI k72)), (0, .ref o), (1, .int (nI 1)), (2, .int (nI u)), (3, .int sum)] → W p l e (rmD 8 0 0) s m args below meth c H locs 0 0 (MQ below (gQ D A (q_m_laysf1 T pp so_ n o u sum w0 g1 g2 g3 g4 tp w6 w7 w8 w9 w10 w11 w12 w13 w14 g15 w16 g17 w18 w19 g20 w21 g22 g23 g24 w25 w26 w27 g28 g29 w30 g31 g32 g33 fa fo fp)) args s 0 0 A) (F0 m 72 ls []) := by
      intro fu_72
      induction fu_72 with
      | zero => intro k72 bv f72 gb72 hk72 hpre hR hmu; exact absurd hmu (Nat.not_lt_zero _)
      | succ fu_72 ih_72 =>
        intro k72 bv f72 gb72 hk72 hpre hR hmu_72 H locs ls V hl
        refine lv_iload hx hb dX8_lays_72 (lv_at hl 0 rfl) ?_
        refine lv_aload_n hx hb dX8_lays_74 rfl (lv_at hl 1 rfl) ?_
        refine g_get hC V (ci := 8) uwX8 0 rfl rfl 1 (by decide) w_913 rfl rfl dX8_lays_75 ?_
        refine lv_iconst (v := (nI 0)) hx hb dX8_lays_78 (by decide +kernel) ?_
        refine g_iald hC V 1 rfl (vp_in_nI (by decide) (by decide)) (v := (nI n)) (by rw [nI_clamp (by decide)]; first | rfl | exact h_a.2.1) dX8_lays_79 ?_
        refine lv_icmp_ge (tgt := 132) hx hb dX8_lays_80 (by decide) (fun c_3 => ?_) (fun c_3 => ?_)
        · skip
          have c_3 := b_le (by omega) (by omega) c_3
          exact g_vret (Qr := (q_m_laysf1 T pp so_ n o u sum w0 g1 g2 g3 g4 tp w6 w7 w8 w9 w10 w11 w12 w13 w14 g15 w16 g17 w18 w19 g20 w21 g22 g23 g24 w25 w26 w27 g28 g29 w30 g31 g32 g33 fa fo fp)) hC V ⟨(Nat.le_of_ble_eq_true rfl), (Nat.le_of_ble_eq_true rfl)⟩ ⟨bv, f72, gb72, rfl, rfl, hpre, (by rw [show n - 1 = (n - 2) + 1 by omega]; have q := hR; rw [show k72 = n by omega] at q; exact q)⟩ dX8_lays_132
        · skip
          have c_3 := b_nle (by omega) (by omega) c_3
          refine lv_iload_n hx hb dX8_lays_83 rfl (lv_at hl 3 rfl) ?_
          refine lv_i2l (v := (nI u).toInt64) hx hb dX8_lays_84 rfl ?_
          refine lv_iload hx hb dX8_lays_85 (lv_at hl 0 rfl) ?_
          refine g_callSU (nA := 2) hC V hl.1 (m_isIn7 l D T u k72 h_ub.1 (by omega)) w_1130 w_1131 w_9 w_1132 (by decide +kernel) rfl ⟨(Nat.le_of_ble_eq_true rfl), (Nat.le_of_ble_eq_true rfl)⟩ [] rfl rfl (Nat.le_of_ble_eq_true rfl) dX8_lays_87 ⟨(Nat.le_of_ble_eq_true rfl), (Nat.le_of_ble_eq_true rfl)⟩ rfl (fun r w1 H locs hQ V => ?_)
          rcases hQ with ⟨rfl, rfl, f_4⟩ | ⟨rfl, rfl, f_5⟩
          · have V : gW D T A s [(o, .inr (8, [.int w0, .ref g1, .ref g2, .ref g3, .ref g4, .int (nI tp), .int w6, .int w7, .int w8, .int w9, .int w10, .int w11, .int w12, .int w13, .int w14, .ref g15, .int w16, .ref g17, .int w18, .int w19, .ref g20, .int w21, .ref g22, .ref g23, .ref g24, .int w25, .int w26, .int w27, .ref g28, .ref g29, .int bv, .ref g31, .ref g32, .ref g33])), (g1, .inl (T 0, 282, .inl fa)), (g28, .inl (T 0, 7, .inl f72)), (g29, .inl (T 0, 7, .inl gb72))] H locs := V _ [] rfl rfl rfl (by decide +kernel) rfl
            show W p l e _ s m args below meth c H locs _ _ _ (F0 m 90 ls [.int (nI 1)])
            refine lv_if_eq (tgt := 96) hx hb dX8_lays_90 (by decide) (fun c => absurd (show (nI 1) = 0 from c) (by decide +kernel)) (fun _ => ?_)
            refine lv_goto (tgt := 126) hx hb dX8_lays_93 (by decide) ?_
            refine lv_iinc (v := (nI (k72 + 1))) (lv' := [(4, .int (nI (k72 + 1))), (0, .ref o), (1, .int (nI 1)), (2, .int (nI u)), (3, .int sum)]) hx hb dX8_lays_126 hl (k := 0) rfl (nI_1 _) (by decide) rfl (fun ls hl => ?_)
            refine lv_goto (tgt := 72) hx hb dX8_lays_129 (by decide) ?_
            exact ih_72 (k72 + 1) bv f72 gb72 (by omega) (by assumption) (by rw [gak_n ((h_us k72 (by omega)).mp f_4)]; exact hR) (by omega) _ _ _ V (lv_sub hl [0, 1, 2, 3, 4] rfl)
          · have V : gW D T A s [(o, .inr (8, [.int w0, .ref g1, .ref g2, .ref g3, .ref g4, .int (nI tp), .int w6, .int w7, .int w8, .int w9, .int w10, .int w11, .int w12, .int w13, .int w14, .ref g15, .int w16, .ref g17, .int w18, .int w19, .ref g20, .int w21, .ref g22, .ref g23, .ref g24, .int w25, .int w26, .int w27, .ref g28, .ref g29, .int bv, .ref g31, .ref g32, .ref g33])), (g1, .inl (T 0, 282, .inl fa)), (g28, .inl (T 0, 7, .inl f72)), (g29, .inl (T 0, 7, .inl gb72))] H locs := V _ [] rfl rfl rfl (by decide +kernel) rfl
            show W p l e _ s m args below meth c H locs _ _ _ (F0 m 90 ls [.int (nI 0)])
            refine lv_if_eq (tgt := 96) hx hb dX8_lays_90 (by decide) (fun _ => ?_) (fun c => absurd (show (nI 0) = 0 by decide +kernel) c)
            refine lv_aload_n hx hb dX8_lays_96 rfl (lv_at hl 1 rfl) ?_
            refine g_get hC V (ci := 8) uwX8 0 rfl rfl 28 (by decide) w_940 rfl rfl dX8_lays_97 ?_
            refine lv_iload_n hx hb dX8_lays_100 rfl (lv_at hl 2 rfl) ?_
            refine lv_iload hx hb dX8_lays_101 (lv_at hl 0 rfl) ?_
            refine g_iast hC V 2 rfl (vp_in_nI (by decide) (by decide)) (f' := (upd f72 1 (nI k72))) (by rw [nI_clamp (by decide)]) (ws' := [(o, .inr (8, [.int w0, .ref g1, .ref g2, .ref g3, .ref g4, .int (nI tp), .int w6, .int w7, .int w8, .int w9, .int w10, .int w11, .int w12, .int w13, .int w14, .ref g15, .int w16, .ref g17, .int w18, .int w19, .ref g20, .int w21, .ref g22, .ref g23, .ref g24, .int w25, .int w26, .int w27, .ref g28, .ref g29, .int bv, .ref g31, .ref g32, .ref g33])), (g1, .inl (T 0, 282, .inl fa)), (g28, .inl (T 0, 7, .inl (upd f72 1 (nI k72)))), (g29, .inl (T 0, 7, .inl gb72))]) rfl dX8_lays_103 (fun H locs V => ?_)
            refine lv_aload_n hx hb dX8_lays_104 rfl (lv_at hl 1 rfl) ?_
            refine lv_iload_n hx hb dX8_lays_105 rfl (lv_at hl 2 rfl) ?_
            refine lv_iconst (v := (nI 1)) hx hb dX8_lays_106 (by decide +kernel) ?_
            refine lv_iadd hx hb dX8_lays_107 ?_
            refine g_vi (y := (nI 2)) (by decide +kernel) ?_
            refine lv_iload_n hx hb dX8_lays_108 rfl (lv_at hl 3 rfl) ?_
            refine lv_iconst (v := (nI 1)) hx hb dX8_lays_109 (by decide +kernel) ?_
            refine lv_iload hx hb dX8_lays_110 (lv_at hl 0 rfl) ?_
            refine lv_ishl hx hb dX8_lays_112 ?_
            refine g_vi (y := (nI (2 ^ k72))) (shl_pow (by omega)) ?_
            refine lv_ior hx hb dX8_lays_113 ?_
            refine g_vi (y := nI (u ||| (2 ^ k72))) (or7 (by omega) (by omega)) ?_
            refine lv_iload_n hx hb dX8_lays_114 rfl (lv_at hl 4 rfl) ?_
            refine lv_aload_n hx hb dX8_lays_115 rfl (lv_at hl 1 rfl) ?_
            refine lv_iload_n hx hb dX8_lays_116 rfl (lv_at hl 2 rfl) ?_
            refine lv_iload hx hb dX8_lays_117 (lv_at hl 0 rfl) ?_
            refine g_callVU (nA := 2) hC V hl.1 (m_offBy_f l D T o 1 k72 w0 g1 g2 g3 g4 tp w6 w7 w8 w9 w10 w11 w12 w13 w14 g15 w16 g17 w18 w19 g20 w21 g22 g23 g24 w25 w26 w27 g28 g29 bv g31 g32 g33 fa (by omega) (by omega)) w_1328 w_1330 w_s77 w_9 w_1331 (by decide +kernel) rfl ⟨(Nat.le_of_ble_eq_true rfl), (Nat.le_of_ble_eq_true rfl)⟩ 0 (ci := 8) rfl rfl [0, 1] rfl rfl (Nat.le_of_ble_eq_true rfl) dX8_lays_119 ⟨(Nat.le_of_ble_eq_true rfl), (Nat.le_of_ble_eq_true rfl)⟩ rfl (fun r w1 H locs hQ V => ?_)
            obtain ⟨z_6, rfl, rfl, f_7⟩ := hQ
            have V : gW D T A s [(o, .inr (8, [.int w0, .ref g1, .ref g2, .ref g3, .ref g4, .int (nI tp), .int w6, .int w7, .int w8, .int w9, .int w10, .int w11, .int w12, .int w13, .int w14, .ref g15, .int w16, .ref g17, .int w18, .int w19, .ref g20, .int w21, .ref g22, .ref g23, .ref g24, .int w25, .int w26, .int w27, .ref g28, .ref g29, .int bv, .ref g31, .ref g32, .ref g33])), (g1, .inl (T 0, 282, .inl fa)), (g28, .inl (T 0, 7, .inl (upd f72 1 (nI k72)))), (g29, .inl (T 0, 7, .inl gb72))] H locs := V _ [0, 0] rfl rfl rfl (by decide +kernel) rfl
            show W p l e _ s m args below meth c H locs _ _ _ (F0 m 122 ls [.int z_6, .int sum, .int (nI (u ||| (2 ^ k72))), .int (nI 2), .ref o])
            refine lv_iadd hx hb dX8_lays_122 ?_
            refine g_callV (wr := []) (nA := 3) hC V hl.1 (m_laysf2 l D T (pp ++ [k72]) ((gaK n (n - 2) pp k72).foldl (upR n fa) so_) n o (u ||| (2 ^ k72)) (sum + z_6) w0 g1 g2 g3 g4 tp w6 w7 w8 w9 w10 w11 w12 w13 w14 g15 w16 g17 w18 w19 g20 w21 g22 g23 g24 w25 w26 w27 g28 g29 bv g31 g32 g33 fa (upd f72 1 (nI k72)) gb72 h_a (li_put (li_ext h_li hpre) (by omega) (ub_free (ub_ext h_ub hpre) (by assumption))) (lt_put h_lt hpre (by omega) h_7) (ub_put (ub_ext h_ub hpre) (by omega)) h_1 h_7 (by omega) (pf_s (pf_e h_pp hpre) (by omega)) (ur_s h_us) (sqz_s h_a (by omega) (by omega) h_sum h_pp.1 f_7) (sqz_b h_a (by omega) (by omega) h_sb h_pp.1) hR) w_1320 w_1322 w_s75 w_9 w_1323 (by decide +kernel) rfl ⟨(Nat.le_of_ble_eq_true rfl), (Nat.le_of_ble_eq_true rfl)⟩ 0 (ci := 8) rfl rfl [0, 1, 2, 3] [] rfl rfl rfl rfl (by decide) (Nat.le_of_ble_eq_true rfl) dX8_lays_123 ⟨(Nat.le_of_ble_eq_true rfl), (Nat.le_of_ble_eq_true rfl)⟩ rfl (fun r w1 H locs hQ V => ?_)
            obtain ⟨bs_8, go_9, gp_10, rfl, rfl, f_11, f_12⟩ := hQ
            have V : gW D T A s [(o, .inr (8, [.int w0, .ref g1, .ref g2, .ref g3, .ref g4, .int (nI tp), .int w6, .int w7, .int w8, .int w9, .int w10, .int w11, .int w12, .int w13, .int w14, .ref g15, .int w16, .ref g17, .int w18, .int w19, .ref g20, .int w21, .ref g22, .ref g23, .ref g24, .int w25, .int w26, .int w27, .ref g28, .ref g29, .int bs_8, .ref g31, .ref g32, .ref g33])), (g1, .inl (T 0, 282, .inl fa)), (g28, .inl (T 0, 7, .inl go_9)), (g29, .inl (T 0, 7, .inl gp_10))] H locs := V
            show W p l e _ s m args below meth c H locs _ _ _ (F0 m 126 ls [])
            have hpre2 : ∀ j, j < 1 → go_9 j = fo j := fun j hj => (f_11 j (by omega)).trans ((up_other (by omega)).trans (hpre j hj))
            refine lv_iinc (v := (nI (k72 + 1))) (lv' := [(4, .int (nI (k72 + 1))), (0, .ref o), (1, .int (nI 1)), (2, .int (nI u)), (3, .int sum)]) hx hb dX8_lays_126 hl (k := 0) rfl (nI_1 _) (by decide) rfl (fun ls hl => ?_)
            refine lv_goto (tgt := 72) hx hb dX8_lays_129 (by decide) ?_
            exact ih_72 (k72 + 1) bs_8 go_9 gp_10 (by omega) (by assumption) (by rw [gak_y (fun r => by have q := (h_us k72 (by omega)).mpr r; rw [f_5] at q; cases q), List.foldl_append]; exact f_12) (by omega) _ _ _ V (lv_sub hl [0, 1, 2, 3, 4] rfl)
    exact L_2 _ 0 w30 fo fp (by omega) (fun _ _ => rfl) h_st (Nat.lt_succ_self _) _ _ _ V (lv_sub hl [0, 1, 2, 3, 4] rfl)
  · skip
    have c_1 := b_eq (by omega) (by omega) c_1
    have hkn : 1 = n := c_1
    refine lv_aload_n hx hb dX8_lays_10 rfl (lv_at hl 0 rfl) ?_
    refine g_callVU (nA := 0) hC V hl.1 (m_isOneRing_f l D T pp n o w0 g1 g2 g3 g4 tp w6 w7 w8 w9 w10 w11 w12 w13 w14 g15 w16 g17 w18 w19 g20 w21 g22 g23 g24 w25 w26 w27 g28 g29 w30 g31 g32 g33 fa fo h_a (lf_of h_li h_lt (by omega)) h_1 h_7 (by have q := h_pp; rw [show 1 = n by omega] at q; exact q)) w_1324 w_1326 w_s76 w_9 w_1327 (by decide +kernel) rfl ⟨(Nat.le_of_ble_eq_true rfl), (Nat.le_of_ble_eq_true rfl)⟩ 0 (ci := 8) rfl rfl [0, 1, 2] rfl rfl (Nat.le_of_ble_eq_true rfl) dX8_lays_11 ⟨(Nat.le_of_ble_eq_true rfl), (Nat.le_of_ble_eq_true rfl)⟩ rfl (fun r w1 H locs hQ V => ?_)
    rcases hQ with ⟨rfl, rfl, f_13⟩ | ⟨rfl, rfl, f_14⟩
    · have V : gW D T A s [(o, .inr (8, [.int w0, .ref g1, .ref g2, .ref g3, .ref g4, .int (nI tp), .int w6, .int w7, .int w8, .int w9, .int w10, .int w11, .int w12, .int w13, .int w14, .ref g15, .int w16, .ref g17, .int w18, .int w19, .ref g20, .int w21, .ref g22, .ref g23, .ref g24, .int w25, .int w26, .int w27, .ref g28, .ref g29, .int w30, .ref g31, .ref g32, .ref g33])), (g1, .inl (T 0, 282, .inl fa)), (g28, .inl (T 0, 7, .inl fo)), (g29, .inl (T 0, 7, .inl fp))] H locs := V _ [0, 0, 0] rfl rfl rfl (by decide +kernel) rfl
      show W p l e _ s m args below meth c H locs _ _ _ (F0 m 14 ls [.int (nI 1)])
      refine lv_if_eq (tgt := 33) hx hb dX8_lays_14 (by decide) (fun c => absurd (show (nI 1) = 0 from c) (by decide +kernel)) (fun _ => ?_)
      refine lv_aload_n hx hb dX8_lays_17 rfl (lv_at hl 0 rfl) ?_
      refine g_get hC V (ci := 8) uwX8 0 rfl rfl 30 (by decide) w_942 rfl rfl dX8_lays_18 ?_
      refine lv_iconst (v := (-1)) hx hb dX8_lays_21 (by decide +kernel) ?_
      refine lv_icmp_eq (tgt := 34) hx hb dX8_lays_22 (by decide) (fun c_15 => ?_) (fun c_15 => ?_)
      · skip
        refine lv_aload_n hx hb dX8_lays_34 rfl (lv_at hl 0 rfl) ?_
        refine lv_iload_n hx hb dX8_lays_35 rfl (lv_at hl 3 rfl) ?_
        refine g_put hC V (ci := 8) uwX8 tyX8 tyX8_ok nmX8 0 rfl rfl 30 (by decide) w_942 rfl rfl rfl rfl (Nat.le_of_ble_eq_true rfl) (ws' := [(o, .inr (8, [.int w0, .ref g1, .ref g2, .ref g3, .ref g4, .int (nI tp), .int w6, .int w7, .int w8, .int w9, .int w10, .int w11, .int w12, .int w13, .int w14, .ref g15, .int w16, .ref g17, .int w18, .int w19, .ref g20, .int w21, .ref g22, .ref g23, .ref g24, .int w25, .int w26, .int w27, .ref g28, .ref g29, .int sum, .ref g31, .ref g32, .ref g33])), (g1, .inl (T 0, 282, .inl fa)), (g28, .inl (T 0, 7, .inl fo)), (g29, .inl (T 0, 7, .inl fp))]) rfl dX8_lays_36 (fun H locs V => ?_)
        refine lv_iconst (v := (nI 0)) hx hb dX8_lays_39 (by decide +kernel) ?_
        refine lv_istore (lv' := [(4, .int (nI 0)), (0, .ref o), (1, .int (nI 1)), (2, .int (nI u)), (3, .int sum)]) hx hb dX8_lays_40 hl (by decide) rfl (fun ls hl => ?_)
        have L_16 : ∀ (fu : Nat) (k42 : Nat) (gb42 : Nat → Int32), k42 ≤ 1 → (∀ j, j < k42 → gb42 j = fo j) → 1 - k42 < fu → ∀ (H : Heap) (locs : List Loc) (ls : Array Slot), gW D T A s [(o, .inr (8, [.int w0, .ref g1, .ref g2, .ref g3, .ref g4, .int (nI tp), .int w6, .int w7, .int w8, .int w9, .int w10, .int w11, .int w12, .int w13, .int w14, .ref g15, .int w16, .ref g17, .int w18, .int w19, .ref g20, .int w21, .ref g22, .ref g23, .ref g24, .int w25, .int w26, .int w27, .ref g28, .ref g29, .int sum, .ref g31, .ref g32, .ref g33])), (g1, .inl (T 0, 282, .inl fa)), (g28, .inl (T 0, 7, .inl fo)), (g29, .inl (T 0, 7, .inl gb42))] H locs → lv_has ls 5 [(4, .int (nI k42)), (0, .ref o), (1, .int (nI 1)), (2, .int (nI u)), (3, .int sum)] → W p l e (rmD 8 0 0) s m args below meth c H locs 0 0 (MQ below (gQ D A (q_m_laysf1 T pp so_ n o u sum w0 g1 g2 g3 g4 tp w6 w7 w8 w9 w10 w11 w12 w13 w14 g15 w16 g17 w18 w19 g20 w21 g22 g23 g24 w25 w26 w27 g28 g29 w30 g31 g32 g33 fa fo fp)) args s 0 0 A) (F0 m 42 ls []) := by
          intro fu_42
          induction fu_42 with
          | zero => intro k42 gb42 hk42 hcb hmu; exact absurd hmu (Nat.not_lt_zero _)
          | succ fu_42 ih_42 =>
            intro k42 gb42 hk42 hcb hmu_42 H locs ls V hl
            refine lv_iload hx hb dX8_lays_42 (lv_at hl 0 rfl) ?_
            refine lv_iload_n hx hb dX8_lays_44 rfl (lv_at hl 2 rfl) ?_
            refine lv_icmp_ge (tgt := 68) hx hb dX8_lays_45 (by decide) (fun c_17 => ?_) (fun c_17 => ?_)
            · skip
              have c_17 := b_le (by omega) (by omega) c_17
              exact g_vret (Qr := (q_m_laysf1 T pp so_ n o u sum w0 g1 g2 g3 g4 tp w6 w7 w8 w9 w10 w11 w12 w13 w14 g15 w16 g17 w18 w19 g20 w21 g22 g23 g24 w25 w26 w27 g28 g29 w30 g31 g32 g33 fa fo fp)) hC V ⟨(Nat.le_of_ble_eq_true rfl), (Nat.le_of_ble_eq_true rfl)⟩ ⟨sum, fo, gb42, rfl, rfl, (fun _ _ => rfl), (by rw [show n - 1 = 0 by omega]; show RST n fa (upR n fa so_ pp) _ _; rw [ur_y f_13]; exact (rs_up h_st h_sum (by omega) (Or.inl c_15) (fun i hi => (hcb i (by omega)).trans (h_pp.2 i (by omega)).1)))⟩ dX8_lays_68
            · skip
              have c_17 := b_nle (by omega) (by omega) c_17
              refine lv_aload_n hx hb dX8_lays_48 rfl (lv_at hl 1 rfl) ?_
              refine g_get hC V (ci := 8) uwX8 0 rfl rfl 29 (by decide) w_941 rfl rfl dX8_lays_49 ?_
              refine lv_iload hx hb dX8_lays_52 (lv_at hl 0 rfl) ?_
              refine lv_aload_n hx hb dX8_lays_54 rfl (lv_at hl 1 rfl) ?_
              refine g_get hC V (ci := 8) uwX8 0 rfl rfl 28 (by decide) w_940 rfl rfl dX8_lays_55 ?_
              refine lv_iload hx hb dX8_lays_58 (lv_at hl 0 rfl) ?_
              refine g_iald hC V 2 rfl (vp_in_nI (by omega) (by omega)) (v := (fo k42)) (congrArg _ (nI_clamp (by omega))) dX8_lays_60 ?_
              refine g_iast hC V 3 rfl (vp_in_nI (by omega) (by omega)) (f' := (upd gb42 k42 (fo k42))) (by rw [nI_clamp (by omega)]) (ws' := [(o, .inr (8, [.int w0, .ref g1, .ref g2, .ref g3, .ref g4, .int (nI tp), .int w6, .int w7, .int w8, .int w9, .int w10, .int w11, .int w12, .int w13, .int w14, .ref g15, .int w16, .ref g17, .int w18, .int w19, .ref g20, .int w21, .ref g22, .ref g23, .ref g24, .int w25, .int w26, .int w27, .ref g28, .ref g29, .int sum, .ref g31, .ref g32, .ref g33])), (g1, .inl (T 0, 282, .inl fa)), (g28, .inl (T 0, 7, .inl fo)), (g29, .inl (T 0, 7, .inl (upd gb42 k42 (fo k42))))]) rfl dX8_lays_61 (fun H locs V => ?_)
              refine lv_iinc (v := (nI (k42 + 1))) (lv' := [(4, .int (nI (k42 + 1))), (0, .ref o), (1, .int (nI 1)), (2, .int (nI u)), (3, .int sum)]) hx hb dX8_lays_62 hl (k := 0) rfl (nI_1 _) (by decide) rfl (fun ls hl => ?_)
              refine lv_goto (tgt := 42) hx hb dX8_lays_65 (by decide) ?_
              exact ih_42 (k42 + 1) (upd gb42 k42 (fo k42)) (by omega) (up_one (p := fun j x => x = fo j) hcb rfl) (by omega) _ _ _ V (lv_sub hl [0, 1, 2, 3, 4] rfl)
        exact L_16 _ 0 fp (by omega) (fun i h => absurd h (Nat.not_lt_zero _)) (Nat.lt_succ_self _) _ _ _ V (lv_sub hl [0, 1, 2, 3, 4] rfl)
      · skip
        refine lv_iload_n hx hb dX8_lays_25 rfl (lv_at hl 3 rfl) ?_
        refine lv_aload_n hx hb dX8_lays_26 rfl (lv_at hl 0 rfl) ?_
        refine g_get hC V (ci := 8) uwX8 0 rfl rfl 30 (by decide) w_942 rfl rfl dX8_lays_27 ?_
        refine lv_icmp_lt (tgt := 34) hx hb dX8_lays_30 (by decide) (fun c_18 => ?_) (fun c_18 => ?_)
        · skip
          refine lv_aload_n hx hb dX8_lays_34 rfl (lv_at hl 0 rfl) ?_
          refine lv_iload_n hx hb dX8_lays_35 rfl (lv_at hl 3 rfl) ?_
          refine g_put hC V (ci := 8) uwX8 tyX8 tyX8_ok nmX8 0 rfl rfl 30 (by decide) w_942 rfl rfl rfl rfl (Nat.le_of_ble_eq_true rfl) (ws' := [(o, .inr (8, [.int w0, .ref g1, .ref g2, .ref g3, .ref g4, .int (nI tp), .int w6, .int w7, .int w8, .int w9, .int w10, .int w11, .int w12, .int w13, .int w14, .ref g15, .int w16, .ref g17, .int w18, .int w19, .ref g20, .int w21, .ref g22, .ref g23, .ref g24, .int w25, .int w26, .int w27, .ref g28, .ref g29, .int sum, .ref g31, .ref g32, .ref g33])), (g1, .inl (T 0, 282, .inl fa)), (g28, .inl (T 0, 7, .inl fo)), (g29, .inl (T 0, 7, .inl fp))]) rfl dX8_lays_36 (fun H locs V => ?_)
          refine lv_iconst (v := (nI 0)) hx hb dX8_lays_39 (by decide +kernel) ?_
          refine lv_istore (lv' := [(4, .int (nI 0)), (0, .ref o), (1, .int (nI 1)), (2, .int (nI u)), (3, .int sum)]) hx hb dX8_lays_40 hl (by decide) rfl (fun ls hl => ?_)
          have L_19 : ∀ (fu : Nat) (k42 : Nat) (gb42 : Nat → Int32), k42 ≤ 1 → (∀ j, j < k42 → gb42 j = fo j) → 1 - k42 < fu → ∀ (H : Heap) (locs : List Loc) (ls : Array Slot), gW D T A s [(o, .inr (8, [.int w0, .ref g1, .ref g2, .ref g3, .ref g4, .int (nI tp), .int w6, .int w7, .int w8, .int w9, .int w10, .int w11, .int w12, .int w13, .int w14, .ref g15, .int w16, .ref g17, .int w18, .int w19, .ref g20, .int w21, .ref g22, .ref g23, .ref g24, .int w25, .int w26, .int w27, .ref g28, .ref g29, .int sum, .ref g31, .ref g32, .ref g33])), (g1, .inl (T 0, 282, .inl fa)), (g28, .inl (T 0, 7, .inl fo)), (g29, .inl (T 0, 7, .inl gb42))] H locs → lv_has ls 5 [(4, .int (nI k42)), (0, .ref o), (1, .int (nI 1)), (2, .int (nI u)), (3, .int sum)] → W p l e (rmD 8 0 0) s m args below meth c H locs 0 0 (MQ below (gQ D A (q_m_laysf1 T pp so_ n o u sum w0 g1 g2 g3 g4 tp w6 w7 w8 w9 w10 w11 w12 w13 w14 g15 w16 g17 w18 w19 g20 w21 g22 g23 g24 w25 w26 w27 g28 g29 w30 g31 g32 g33 fa fo fp)) args s 0 0 A) (F0 m 42 ls []) := by
            intro fu_42
            induction fu_42 with
            | zero => intro k42 gb42 hk42 hcb hmu; exact absurd hmu (Nat.not_lt_zero _)
            | succ fu_42 ih_42 =>
              intro k42 gb42 hk42 hcb hmu_42 H locs ls V hl
              refine lv_iload hx hb dX8_lays_42 (lv_at hl 0 rfl) ?_
              refine lv_iload_n hx hb dX8_lays_44 rfl (lv_at hl 2 rfl) ?_
              refine lv_icmp_ge (tgt := 68) hx hb dX8_lays_45 (by decide) (fun c_20 => ?_) (fun c_20 => ?_)
              · skip
                have c_20 := b_le (by omega) (by omega) c_20
                exact g_vret (Qr := (q_m_laysf1 T pp so_ n o u sum w0 g1 g2 g3 g4 tp w6 w7 w8 w9 w10 w11 w12 w13 w14 g15 w16 g17 w18 w19 g20 w21 g22 g23 g24 w25 w26 w27 g28 g29 w30 g31 g32 g33 fa fo fp)) hC V ⟨(Nat.le_of_ble_eq_true rfl), (Nat.le_of_ble_eq_true rfl)⟩ ⟨sum, fo, gb42, rfl, rfl, (fun _ _ => rfl), (by rw [show n - 1 = 0 by omega]; show RST n fa (upR n fa so_ pp) _ _; rw [ur_y f_13]; exact (rs_up h_st h_sum (by omega) (Or.inr c_18) (fun i hi => (hcb i (by omega)).trans (h_pp.2 i (by omega)).1)))⟩ dX8_lays_68
              · skip
                have c_20 := b_nle (by omega) (by omega) c_20
                refine lv_aload_n hx hb dX8_lays_48 rfl (lv_at hl 1 rfl) ?_
                refine g_get hC V (ci := 8) uwX8 0 rfl rfl 29 (by decide) w_941 rfl rfl dX8_lays_49 ?_
                refine lv_iload hx hb dX8_lays_52 (lv_at hl 0 rfl) ?_
                refine lv_aload_n hx hb dX8_lays_54 rfl (lv_at hl 1 rfl) ?_
                refine g_get hC V (ci := 8) uwX8 0 rfl rfl 28 (by decide) w_940 rfl rfl dX8_lays_55 ?_
                refine lv_iload hx hb dX8_lays_58 (lv_at hl 0 rfl) ?_
                refine g_iald hC V 2 rfl (vp_in_nI (by omega) (by omega)) (v := (fo k42)) (congrArg _ (nI_clamp (by omega))) dX8_lays_60 ?_
                refine g_iast hC V 3 rfl (vp_in_nI (by omega) (by omega)) (f' := (upd gb42 k42 (fo k42))) (by rw [nI_clamp (by omega)]) (ws' := [(o, .inr (8, [.int w0, .ref g1, .ref g2, .ref g3, .ref g4, .int (nI tp), .int w6, .int w7, .int w8, .int w9, .int w10, .int w11, .int w12, .int w13, .int w14, .ref g15, .int w16, .ref g17, .int w18, .int w19, .ref g20, .int w21, .ref g22, .ref g23, .ref g24, .int w25, .int w26, .int w27, .ref g28, .ref g29, .int sum, .ref g31, .ref g32, .ref g33])), (g1, .inl (T 0, 282, .inl fa)), (g28, .inl (T 0, 7, .inl fo)), (g29, .inl (T 0, 7, .inl (upd gb42 k42 (fo k42))))]) rfl dX8_lays_61 (fun H locs V => ?_)
                refine lv_iinc (v := (nI (k42 + 1))) (lv' := [(4, .int (nI (k42 + 1))), (0, .ref o), (1, .int (nI 1)), (2, .int (nI u)), (3, .int sum)]) hx hb dX8_lays_62 hl (k := 0) rfl (nI_1 _) (by decide) rfl (fun ls hl => ?_)
                refine lv_goto (tgt := 42) hx hb dX8_lays_65 (by decide) ?_
                exact ih_42 (k42 + 1) (upd gb42 k42 (fo k42)) (by omega) (up_one (p := fun j x => x = fo j) hcb rfl) (by omega) _ _ _ V (lv_sub hl [0, 1, 2, 3, 4] rfl)
          exact L_19 _ 0 fp (by omega) (fun i h => absurd h (Nat.not_lt_zero _)) (Nat.lt_succ_self _) _ _ _ V (lv_sub hl [0, 1, 2, 3, 4] rfl)
        · skip
          exact g_vret (Qr := (q_m_laysf1 T pp so_ n o u sum w0 g1 g2 g3 g4 tp w6 w7 w8 w9 w10 w11 w12 w13 w14 g15 w16 g17 w18 w19 g20 w21 g22 g23 g24 w25 w26 w27 g28 g29 w30 g31 g32 g33 fa fo fp)) hC V ⟨(Nat.le_of_ble_eq_true rfl), (Nat.le_of_ble_eq_true rfl)⟩ ⟨w30, fo, fp, rfl, rfl, (fun _ _ => rfl), (by rw [show n - 1 = 0 by omega]; show RST n fa (upR n fa so_ pp) _ _; rw [ur_y f_13]; exact (rs_no h_st h_sum (by omega) c_15 c_18))⟩ dX8_lays_33
    · have V : gW D T A s [(o, .inr (8, [.int w0, .ref g1, .ref g2, .ref g3, .ref g4, .int (nI tp), .int w6, .int w7, .int w8, .int w9, .int w10, .int w11, .int w12, .int w13, .int w14, .ref g15, .int w16, .ref g17, .int w18, .int w19, .ref g20, .int w21, .ref g22, .ref g23, .ref g24, .int w25, .int w26, .int w27, .ref g28, .ref g29, .int w30, .ref g31, .ref g32, .ref g33])), (g1, .inl (T 0, 282, .inl fa)), (g28, .inl (T 0, 7, .inl fo)), (g29, .inl (T 0, 7, .inl fp))] H locs := V _ [0, 0, 0] rfl rfl rfl (by decide +kernel) rfl
      show W p l e _ s m args below meth c H locs _ _ _ (F0 m 14 ls [.int (nI 0)])
      refine lv_if_eq (tgt := 33) hx hb dX8_lays_14 (by decide) (fun _ => ?_) (fun c => absurd (show (nI 0) = 0 by decide +kernel) c)
      exact g_vret (Qr := (q_m_laysf1 T pp so_ n o u sum w0 g1 g2 g3 g4 tp w6 w7 w8 w9 w10 w11 w12 w13 w14 g15 w16 g17 w18 w19 g20 w21 g22 g23 g24 w25 w26 w27 g28 g29 w30 g31 g32 g33 fa fo fp)) hC V ⟨(Nat.le_of_ble_eq_true rfl), (Nat.le_of_ble_eq_true rfl)⟩ ⟨w30, fo, fp, rfl, rfl, (fun _ _ => rfl), (by rw [show n - 1 = 0 by omega]; show RST n fa (upR n fa so_ pp) _ _; rw [ur_n f_14]; exact h_st)⟩ dX8_lays_33

def q_m_laysf0 (T : Nat → ClassId) (pp : List Nat) (so_ : Option (List Nat)) (n : Nat) (o : Nat) (u : Nat) (sum : Int32) (w0 : Int32) (g1 : Nat) (g2 : Nat) (g3 : Nat) (g4 : Nat) (tp : Nat) (w6 : Int32) (w7 : Int32) (w8 : Int32) (w9 : Int32) (w10 : Int32) (w11 : Int32) (w12 : Int32) (w13 : Int32) (w14 : Int32) (g15 : Nat) (w16 : Int32) (g17 : Nat) (w18 : Int32) (w19 : Int32) (g20 : Nat) (w21 : Int32) (g22 : Nat) (g23 : Nat) (g24 : Nat) (w25 : Int32) (w26 : Int32) (w27 : Int32) (g28 : Nat) (g29 : Nat) (w30 : Int32) (g31 : Nat) (g32 : Nat) (g33 : Nat) (fa : Nat → Int32) (fo : Nat → Int32) (fp : Nat → Int32) : Option Value → va_W → Prop := fun rr ww => (∃ (bs : Int32) (go : Nat → Int32) (gp : Nat → Int32), rr = none ∧ ww = [(o, .inr (8, [.int w0, .ref g1, .ref g2, .ref g3, .ref g4, .int (nI tp), .int w6, .int w7, .int w8, .int w9, .int w10, .int w11, .int w12, .int w13, .int w14, .ref g15, .int w16, .ref g17, .int w18, .int w19, .ref g20, .int w21, .ref g22, .ref g23, .ref g24, .int w25, .int w26, .int w27, .ref g28, .ref g29, .int bs, .ref g31, .ref g32, .ref g33])), (g1, .inl (T 0, 282, .inl fa)), (g28, .inl (T 0, 7, .inl go)), (g29, .inl (T 0, 7, .inl gp))] ∧ (∀ j, j < 0 → go j = fo j) ∧ RST n fa ((gA n (n - 0) pp).foldl (upR n fa) so_) bs gp)
set_option maxHeartbeats 4000000 in
set_option maxRecDepth 100000 in
theorem m_laysf0 (l : Launch) (D : va_G) (T : Nat → ClassId) (pp : List Nat) (so_ : Option (List Nat)) (n : Nat) (o : Nat) (u : Nat) (sum : Int32) (w0 : Int32) (g1 : Nat) (g2 : Nat) (g3 : Nat) (g4 : Nat) (tp : Nat) (w6 : Int32) (w7 : Int32) (w8 : Int32) (w9 : Int32) (w10 : Int32) (w11 : Int32) (w12 : Int32) (w13 : Int32) (w14 : Int32) (g15 : Nat) (w16 : Int32) (g17 : Nat) (w18 : Int32) (w19 : Int32) (g20 : Nat) (w21 : Int32) (g22 : Nat) (g23 : Nat) (g24 : Nat) (w25 : Int32) (w26 : Int32) (w27 : Int32) (g28 : Nat) (g29 : Nat) (w30 : Int32) (g31 : Nat) (g32 : Nat) (g33 : Nat) (fa : Nat → Int32) (fo : Nat → Int32) (fp : Nat → Int32) (h_a : MI n fa) (h_li : LI 0 fo) (h_lt : ∀ j, j < 0 → toF fo j < n) (h_ub : UB 0 u fo) (h_1 : 1 ≤ n) (h_7 : n ≤ 7) (h_kn : 0 ≤ n) (h_pp : PFX n pp 0 fo) (h_us : USR pp u) (h_sum : sum = nI (smL fa 0 pp)) (h_sb : smL fa 0 pp ≤ 60 * 0) (h_st : RST n fa so_ w30 fp) : Ct l yX8_lays cX8_lays 5 none 9 0 0 D T [.ref o, .int (nI 0), .int (nI u), .int sum] [(o, .inr (8, [.int w0, .ref g1, .ref g2, .ref g3, .ref g4, .int (nI tp), .int w6, .int w7, .int w8, .int w9, .int w10, .int w11, .int w12, .int w13, .int w14, .ref g15, .int w16, .ref g17, .int w18, .int w19, .ref g20, .int w21, .ref g22, .ref g23, .ref g24, .int w25, .int w26, .int w27, .ref g28, .ref g29, .int w30, .ref g31, .ref g32, .ref g33])), (g1, .inl (T 0, 282, .inl fa)), (g28, .inl (T 0, 7, .inl fo)), (g29, .inl (T 0, 7, .inl fp))] (q_m_laysf0 T pp so_ n o u sum w0 g1 g2 g3 g4 tp w6 w7 w8 w9 w10 w11 w12 w13 w14 g15 w16 g17 w18 w19 g20 w21 g22 g23 g24 w25 w26 w27 g28 g29 w30 g31 g32 g33 fa fo fp) := by
  refine Ct.of (cc := cX8_lays) (maxL := 5) (ret := none) (by decide) (Nat.le_of_ble_eq_true rfl) ?_
  intro p e s m args below meth c A ls hC hnm V hl
  obtain ⟨hx, hb, hr, hml, hown, hts, hlocks⟩ := id hC
  generalize hH : s.heap = H at V ⊢
  clear hH
  have hl : lv_has ls 5 [(0, .ref o), (1, .int (nI 0)), (2, .int (nI u)), (3, .int sum)] := hl
  generalize hlo : ([] : List Loc) = locs at V ⊢
  clear hlo
  have ms0 := ms_rf h_a
  have hn10 := h_a.1
  have hu := h_ub.1
  refine lv_iload_n hx hb dX8_lays_0 rfl (lv_at hl 1 rfl) ?_
  refine lv_aload_n hx hb dX8_lays_1 rfl (lv_at hl 0 rfl) ?_
  refine g_get hC V (ci := 8) uwX8 0 rfl rfl 1 (by decide) w_913 rfl rfl dX8_lays_2 ?_
  refine lv_iconst (v := (nI 0)) hx hb dX8_lays_5 (by decide +kernel) ?_
  refine g_iald hC V 1 rfl (vp_in_nI (by decide) (by decide)) (v := (nI n)) (by rw [nI_clamp (by decide)]; first | rfl | exact h_a.2.1) dX8_lays_6 ?_
  refine lv_icmp_ne (tgt := 69) hx hb dX8_lays_7 (by decide) (fun c_1 => ?_) (fun c_1 => ?_)
  · skip
    have c_1 := b_ne (by omega) (by omega) c_1
    refine lv_iconst (v := (nI 0)) hx hb dX8_lays_69 (by decide +kernel) ?_
    refine lv_istore (lv' := [(4, .int (nI 0)), (0, .ref o), (1, .int (nI 0)), (2, .int (nI u)), (3, .int sum)]) hx hb dX8_lays_70 hl (by decide) rfl (fun ls hl => ?_)
    have L_2 : ∀ (fu : Nat) (k72 : Nat) (bv : Int32) (f72 : Nat → Int32) (gb72 : Nat → Int32), k72 ≤ n → (∀ j, j < 0 → f72 j = fo j) → RST n fa ((gaK n (n - 1) pp k72).foldl (upR n fa) so_) bv gb72 → n - k72 < fu → ∀ (H : Heap) (locs : List Loc) (ls : Array Slot), gW D T A s [(o, .inr (8, [.int w0, .ref g1, .ref g2, .ref g3, .ref g4, .int (nI tp), .int w6, .int w7, .int w8, .int w9, .int w10, .int w11, .int w12, .int w13, .int w14, .ref g15, .int w16, .ref g17, .int w18, .int w19, .ref g20, .int w21, .ref g22, .ref g23, .ref g24, .int w25, .int w26, .int w27, .ref g28, .ref g29, .int bv, .ref g31, .ref g32, .ref g33])), (g1, .inl (T 0, 282, .inl fa)), (g28, .inl (T 0, 7, .inl f72)), (g29, .inl (T 0, 7, .inl gb72))] H locs → lv_has ls 5 [(4, .int (nI k72)), (0, .ref o), (1, .int (nI 0)), (2, .int (nI u)), (3, .int sum)] → W p l e (rmD 9 0 0) s m args below meth c H locs 0 0 (MQ below (gQ D A (q_m_laysf0 T pp so_ n o u sum w0 g1 g2 g3 g4 tp w6 w7 w8 w9 w10 w11 w12 w13 w14 g15 w16 g17 w18 w19 g20 w21 g22 g23 g24 w25 w26 w27 g28 g29 w30 g31 g32 g33 fa fo fp)) args s 0 0 A) (F0 m 72 ls []) := by
      intro fu_72
      induction fu_72 with
      | zero => intro k72 bv f72 gb72 hk72 hpre hR hmu; exact absurd hmu (Nat.not_lt_zero _)
      | succ fu_72 ih_72 =>
        intro k72 bv f72 gb72 hk72 hpre hR hmu_72 H locs ls V hl
        refine lv_iload hx hb dX8_lays_72 (lv_at hl 0 rfl) ?_
        refine lv_aload_n hx hb dX8_lays_74 rfl (lv_at hl 1 rfl) ?_
        refine g_get hC V (ci := 8) uwX8 0 rfl rfl 1 (by decide) w_913 rfl rfl dX8_lays_75 ?_
        refine lv_iconst (v := (nI 0)) hx hb dX8_lays_78 (by decide +kernel) ?_
        refine g_iald hC V 1 rfl (vp_in_nI (by decide) (by decide)) (v := (nI n)) (by rw [nI_clamp (by decide)]; first | rfl | exact h_a.2.1) dX8_lays_79 ?_
        refine lv_icmp_ge (tgt := 132) hx hb dX8_lays_80 (by decide) (fun c_3 => ?_) (fun c_3 => ?_)
        · skip
          have c_3 := b_le (by omega) (by omega) c_3
          exact g_vret (Qr := (q_m_laysf0 T pp so_ n o u sum w0 g1 g2 g3 g4 tp w6 w7 w8 w9 w10 w11 w12 w13 w14 g15 w16 g17 w18 w19 g20 w21 g22 g23 g24 w25 w26 w27 g28 g29 w30 g31 g32 g33 fa fo fp)) hC V ⟨(Nat.le_of_ble_eq_true rfl), (Nat.le_of_ble_eq_true rfl)⟩ ⟨bv, f72, gb72, rfl, rfl, hpre, (by rw [show n - 0 = (n - 1) + 1 by omega]; have q := hR; rw [show k72 = n by omega] at q; exact q)⟩ dX8_lays_132
        · skip
          have c_3 := b_nle (by omega) (by omega) c_3
          refine lv_iload_n hx hb dX8_lays_83 rfl (lv_at hl 3 rfl) ?_
          refine lv_i2l (v := (nI u).toInt64) hx hb dX8_lays_84 rfl ?_
          refine lv_iload hx hb dX8_lays_85 (lv_at hl 0 rfl) ?_
          refine g_callSU (nA := 2) hC V hl.1 (m_isIn7 l D T u k72 h_ub.1 (by omega)) w_1130 w_1131 w_9 w_1132 (by decide +kernel) rfl ⟨(Nat.le_of_ble_eq_true rfl), (Nat.le_of_ble_eq_true rfl)⟩ [] rfl rfl (Nat.le_of_ble_eq_true rfl) dX8_lays_87 ⟨(Nat.le_of_ble_eq_true rfl), (Nat.le_of_ble_eq_true rfl)⟩ rfl (fun r w1 H locs hQ V => ?_)
          rcases hQ with ⟨rfl, rfl, f_4⟩ | ⟨rfl, rfl, f_5⟩
          · have V : gW D T A s [(o, .inr (8, [.int w0, .ref g1, .ref g2, .ref g3, .ref g4, .int (nI tp), .int w6, .int w7, .int w8, .int w9, .int w10, .int w11, .int w12, .int w13, .int w14, .ref g15, .int w16, .ref g17, .int w18, .int w19, .ref g20, .int w21, .ref g22, .ref g23, .ref g24, .int w25, .int w26, .int w27, .ref g28, .ref g29, .int bv, .ref g31, .ref g32, .ref g33])), (g1, .inl (T 0, 282, .inl fa)), (g28, .inl (T 0, 7, .inl f72)), (g29, .inl (T 0, 7, .inl gb72))] H locs := V _ [] rfl rfl rfl (by decide +kernel) rfl
            show W p l e _ s m args below meth c H locs _ _ _ (F0 m 90 ls [.int (nI 1)])
            refine lv_if_eq (tgt := 96) hx hb dX8_lays_90 (by decide) (fun c => absurd (show (nI 1) = 0 from c) (by decide +kernel)) (fun _ => ?_)
            refine lv_goto (tgt := 126) hx hb dX8_lays_93 (by decide) ?_
            refine lv_iinc (v := (nI (k72 + 1))) (lv' := [(4, .int (nI (k72 + 1))), (0, .ref o), (1, .int (nI 0)), (2, .int (nI u)), (3, .int sum)]) hx hb dX8_lays_126 hl (k := 0) rfl (nI_1 _) (by decide) rfl (fun ls hl => ?_)
            refine lv_goto (tgt := 72) hx hb dX8_lays_129 (by decide) ?_
            exact ih_72 (k72 + 1) bv f72 gb72 (by omega) (by assumption) (by rw [gak_n ((h_us k72 (by omega)).mp f_4)]; exact hR) (by omega) _ _ _ V (lv_sub hl [0, 1, 2, 3, 4] rfl)
          · have V : gW D T A s [(o, .inr (8, [.int w0, .ref g1, .ref g2, .ref g3, .ref g4, .int (nI tp), .int w6, .int w7, .int w8, .int w9, .int w10, .int w11, .int w12, .int w13, .int w14, .ref g15, .int w16, .ref g17, .int w18, .int w19, .ref g20, .int w21, .ref g22, .ref g23, .ref g24, .int w25, .int w26, .int w27, .ref g28, .ref g29, .int bv, .ref g31, .ref g32, .ref g33])), (g1, .inl (T 0, 282, .inl fa)), (g28, .inl (T 0, 7, .inl f72)), (g29, .inl (T 0, 7, .inl gb72))] H locs := V _ [] rfl rfl rfl (by decide +kernel) rfl
            show W p l e _ s m args below meth c H locs _ _ _ (F0 m 90 ls [.int (nI 0)])
            refine lv_if_eq (tgt := 96) hx hb dX8_lays_90 (by decide) (fun _ => ?_) (fun c => absurd (show (nI 0) = 0 by decide +kernel) c)
            refine lv_aload_n hx hb dX8_lays_96 rfl (lv_at hl 1 rfl) ?_
            refine g_get hC V (ci := 8) uwX8 0 rfl rfl 28 (by decide) w_940 rfl rfl dX8_lays_97 ?_
            refine lv_iload_n hx hb dX8_lays_100 rfl (lv_at hl 2 rfl) ?_
            refine lv_iload hx hb dX8_lays_101 (lv_at hl 0 rfl) ?_
            refine g_iast hC V 2 rfl (vp_in_nI (by decide) (by decide)) (f' := (upd f72 0 (nI k72))) (by rw [nI_clamp (by decide)]) (ws' := [(o, .inr (8, [.int w0, .ref g1, .ref g2, .ref g3, .ref g4, .int (nI tp), .int w6, .int w7, .int w8, .int w9, .int w10, .int w11, .int w12, .int w13, .int w14, .ref g15, .int w16, .ref g17, .int w18, .int w19, .ref g20, .int w21, .ref g22, .ref g23, .ref g24, .int w25, .int w26, .int w27, .ref g28, .ref g29, .int bv, .ref g31, .ref g32, .ref g33])), (g1, .inl (T 0, 282, .inl fa)), (g28, .inl (T 0, 7, .inl (upd f72 0 (nI k72)))), (g29, .inl (T 0, 7, .inl gb72))]) rfl dX8_lays_103 (fun H locs V => ?_)
            refine lv_aload_n hx hb dX8_lays_104 rfl (lv_at hl 1 rfl) ?_
            refine lv_iload_n hx hb dX8_lays_105 rfl (lv_at hl 2 rfl) ?_
            refine lv_iconst (v := (nI 1)) hx hb dX8_lays_106 (by decide +kernel) ?_
            refine lv_iadd hx hb dX8_lays_107 ?_
            refine g_vi (y := (nI 1)) (by decide +kernel) ?_
            refine lv_iload_n hx hb dX8_lays_108 rfl (lv_at hl 3 rfl) ?_
            refine lv_iconst (v := (nI 1)) hx hb dX8_lays_109 (by decide +kernel) ?_
            refine lv_iload hx hb dX8_lays_110 (lv_at hl 0 rfl) ?_
            refine lv_ishl hx hb dX8_lays_112 ?_
            refine g_vi (y := (nI (2 ^ k72))) (shl_pow (by omega)) ?_
            refine lv_ior hx hb dX8_lays_113 ?_
            refine g_vi (y := nI (u ||| (2 ^ k72))) (or7 (by omega) (by omega)) ?_
            refine lv_iload_n hx hb dX8_lays_114 rfl (lv_at hl 4 rfl) ?_
            refine lv_aload_n hx hb dX8_lays_115 rfl (lv_at hl 1 rfl) ?_
            refine lv_iload_n hx hb dX8_lays_116 rfl (lv_at hl 2 rfl) ?_
            refine lv_iload hx hb dX8_lays_117 (lv_at hl 0 rfl) ?_
            refine g_callVU (nA := 2) hC V hl.1 (m_offBy_f l D T o 0 k72 w0 g1 g2 g3 g4 tp w6 w7 w8 w9 w10 w11 w12 w13 w14 g15 w16 g17 w18 w19 g20 w21 g22 g23 g24 w25 w26 w27 g28 g29 bv g31 g32 g33 fa (by omega) (by omega)) w_1328 w_1330 w_s77 w_9 w_1331 (by decide +kernel) rfl ⟨(Nat.le_of_ble_eq_true rfl), (Nat.le_of_ble_eq_true rfl)⟩ 0 (ci := 8) rfl rfl [0, 1] rfl rfl (Nat.le_of_ble_eq_true rfl) dX8_lays_119 ⟨(Nat.le_of_ble_eq_true rfl), (Nat.le_of_ble_eq_true rfl)⟩ rfl (fun r w1 H locs hQ V => ?_)
            obtain ⟨z_6, rfl, rfl, f_7⟩ := hQ
            have V : gW D T A s [(o, .inr (8, [.int w0, .ref g1, .ref g2, .ref g3, .ref g4, .int (nI tp), .int w6, .int w7, .int w8, .int w9, .int w10, .int w11, .int w12, .int w13, .int w14, .ref g15, .int w16, .ref g17, .int w18, .int w19, .ref g20, .int w21, .ref g22, .ref g23, .ref g24, .int w25, .int w26, .int w27, .ref g28, .ref g29, .int bv, .ref g31, .ref g32, .ref g33])), (g1, .inl (T 0, 282, .inl fa)), (g28, .inl (T 0, 7, .inl (upd f72 0 (nI k72)))), (g29, .inl (T 0, 7, .inl gb72))] H locs := V _ [0, 0] rfl rfl rfl (by decide +kernel) rfl
            show W p l e _ s m args below meth c H locs _ _ _ (F0 m 122 ls [.int z_6, .int sum, .int (nI (u ||| (2 ^ k72))), .int (nI 1), .ref o])
            refine lv_iadd hx hb dX8_lays_122 ?_
            refine g_callV (wr := []) (nA := 3) hC V hl.1 (m_laysf1 l D T (pp ++ [k72]) ((gaK n (n - 1) pp k72).foldl (upR n fa) so_) n o (u ||| (2 ^ k72)) (sum + z_6) w0 g1 g2 g3 g4 tp w6 w7 w8 w9 w10 w11 w12 w13 w14 g15 w16 g17 w18 w19 g20 w21 g22 g23 g24 w25 w26 w27 g28 g29 bv g31 g32 g33 fa (upd f72 0 (nI k72)) gb72 h_a (li_put (li_ext h_li hpre) (by omega) (ub_free (ub_ext h_ub hpre) (by assumption))) (lt_put h_lt hpre (by omega) h_7) (ub_put (ub_ext h_ub hpre) (by omega)) h_1 h_7 (by omega) (pf_s (pf_e h_pp hpre) (by omega)) (ur_s h_us) (sqz_s h_a (by omega) (by omega) h_sum h_pp.1 f_7) (sqz_b h_a (by omega) (by omega) h_sb h_pp.1) hR) w_1320 w_1322 w_s75 w_9 w_1323 (by decide +kernel) rfl ⟨(Nat.le_of_ble_eq_true rfl), (Nat.le_of_ble_eq_true rfl)⟩ 0 (ci := 8) rfl rfl [0, 1, 2, 3] [] rfl rfl rfl rfl (by decide) (Nat.le_of_ble_eq_true rfl) dX8_lays_123 ⟨(Nat.le_of_ble_eq_true rfl), (Nat.le_of_ble_eq_true rfl)⟩ rfl (fun r w1 H locs hQ V => ?_)
            obtain ⟨bs_8, go_9, gp_10, rfl, rfl, f_11, f_12⟩ := hQ
            have V : gW D T A s [(o, .inr (8, [.int w0, .ref g1, .ref g2, .ref g3, .ref g4, .int (nI tp), .int w6, .int w7, .int w8, .int w9, .int w10, .int w11, .int w12, .int w13, .int w14, .ref g15, .int w16, .ref g17, .int w18, .int w19, .ref g20, .int w21, .ref g22, .ref g23, .ref g24, .int w25, .int w26, .int w27, .ref g28, .ref g29, .int bs_8, .ref g31, .ref g32, .ref g33])), (g1, .inl (T 0, 282, .inl fa)), (g28, .inl (T 0, 7, .inl go_9)), (g29, .inl (T 0, 7, .inl gp_10))] H locs := V
            show W p l e _ s m args below meth c H locs _ _ _ (F0 m 126 ls [])
            have hpre2 : ∀ j, j < 0 → go_9 j = fo j := fun j hj => (f_11 j (by omega)).trans ((up_other (by omega)).trans (hpre j hj))
            refine lv_iinc (v := (nI (k72 + 1))) (lv' := [(4, .int (nI (k72 + 1))), (0, .ref o), (1, .int (nI 0)), (2, .int (nI u)), (3, .int sum)]) hx hb dX8_lays_126 hl (k := 0) rfl (nI_1 _) (by decide) rfl (fun ls hl => ?_)
            refine lv_goto (tgt := 72) hx hb dX8_lays_129 (by decide) ?_
            exact ih_72 (k72 + 1) bs_8 go_9 gp_10 (by omega) (by assumption) (by rw [gak_y (fun r => by have q := (h_us k72 (by omega)).mpr r; rw [f_5] at q; cases q), List.foldl_append]; exact f_12) (by omega) _ _ _ V (lv_sub hl [0, 1, 2, 3, 4] rfl)
    exact L_2 _ 0 w30 fo fp (by omega) (fun _ _ => rfl) h_st (Nat.lt_succ_self _) _ _ _ V (lv_sub hl [0, 1, 2, 3, 4] rfl)
  · skip
    have c_1 := b_eq (by omega) (by omega) c_1
    have hkn : 0 = n := c_1
    refine lv_aload_n hx hb dX8_lays_10 rfl (lv_at hl 0 rfl) ?_
    refine g_callVU (nA := 0) hC V hl.1 (m_isOneRing_f l D T pp n o w0 g1 g2 g3 g4 tp w6 w7 w8 w9 w10 w11 w12 w13 w14 g15 w16 g17 w18 w19 g20 w21 g22 g23 g24 w25 w26 w27 g28 g29 w30 g31 g32 g33 fa fo h_a (lf_of h_li h_lt (by omega)) h_1 h_7 (by have q := h_pp; rw [show 0 = n by omega] at q; exact q)) w_1324 w_1326 w_s76 w_9 w_1327 (by decide +kernel) rfl ⟨(Nat.le_of_ble_eq_true rfl), (Nat.le_of_ble_eq_true rfl)⟩ 0 (ci := 8) rfl rfl [0, 1, 2] rfl rfl (Nat.le_of_ble_eq_true rfl) dX8_lays_11 ⟨(Nat.le_of_ble_eq_true rfl), (Nat.le_of_ble_eq_true rfl)⟩ rfl (fun r w1 H locs hQ V => ?_)
    rcases hQ with ⟨rfl, rfl, f_13⟩ | ⟨rfl, rfl, f_14⟩
    · have V : gW D T A s [(o, .inr (8, [.int w0, .ref g1, .ref g2, .ref g3, .ref g4, .int (nI tp), .int w6, .int w7, .int w8, .int w9, .int w10, .int w11, .int w12, .int w13, .int w14, .ref g15, .int w16, .ref g17, .int w18, .int w19, .ref g20, .int w21, .ref g22, .ref g23, .ref g24, .int w25, .int w26, .int w27, .ref g28, .ref g29, .int w30, .ref g31, .ref g32, .ref g33])), (g1, .inl (T 0, 282, .inl fa)), (g28, .inl (T 0, 7, .inl fo)), (g29, .inl (T 0, 7, .inl fp))] H locs := V _ [0, 0, 0] rfl rfl rfl (by decide +kernel) rfl
      show W p l e _ s m args below meth c H locs _ _ _ (F0 m 14 ls [.int (nI 1)])
      refine lv_if_eq (tgt := 33) hx hb dX8_lays_14 (by decide) (fun c => absurd (show (nI 1) = 0 from c) (by decide +kernel)) (fun _ => ?_)
      refine lv_aload_n hx hb dX8_lays_17 rfl (lv_at hl 0 rfl) ?_
      refine g_get hC V (ci := 8) uwX8 0 rfl rfl 30 (by decide) w_942 rfl rfl dX8_lays_18 ?_
      refine lv_iconst (v := (-1)) hx hb dX8_lays_21 (by decide +kernel) ?_
      refine lv_icmp_eq (tgt := 34) hx hb dX8_lays_22 (by decide) (fun c_15 => ?_) (fun c_15 => ?_)
      · skip
        refine lv_aload_n hx hb dX8_lays_34 rfl (lv_at hl 0 rfl) ?_
        refine lv_iload_n hx hb dX8_lays_35 rfl (lv_at hl 3 rfl) ?_
        refine g_put hC V (ci := 8) uwX8 tyX8 tyX8_ok nmX8 0 rfl rfl 30 (by decide) w_942 rfl rfl rfl rfl (Nat.le_of_ble_eq_true rfl) (ws' := [(o, .inr (8, [.int w0, .ref g1, .ref g2, .ref g3, .ref g4, .int (nI tp), .int w6, .int w7, .int w8, .int w9, .int w10, .int w11, .int w12, .int w13, .int w14, .ref g15, .int w16, .ref g17, .int w18, .int w19, .ref g20, .int w21, .ref g22, .ref g23, .ref g24, .int w25, .int w26, .int w27, .ref g28, .ref g29, .int sum, .ref g31, .ref g32, .ref g33])), (g1, .inl (T 0, 282, .inl fa)), (g28, .inl (T 0, 7, .inl fo)), (g29, .inl (T 0, 7, .inl fp))]) rfl dX8_lays_36 (fun H locs V => ?_)
        refine lv_iconst (v := (nI 0)) hx hb dX8_lays_39 (by decide +kernel) ?_
        refine lv_istore (lv' := [(4, .int (nI 0)), (0, .ref o), (1, .int (nI 0)), (2, .int (nI u)), (3, .int sum)]) hx hb dX8_lays_40 hl (by decide) rfl (fun ls hl => ?_)
        have L_16 : ∀ (fu : Nat) (k42 : Nat) (gb42 : Nat → Int32), k42 ≤ 0 → (∀ j, j < k42 → gb42 j = fo j) → 0 - k42 < fu → ∀ (H : Heap) (locs : List Loc) (ls : Array Slot), gW D T A s [(o, .inr (8, [.int w0, .ref g1, .ref g2, .ref g3, .ref g4, .int (nI tp), .int w6, .int w7, .int w8, .int w9, .int w10, .int w11, .int w12, .int w13, .int w14, .ref g15, .int w16, .ref g17, .int w18, .int w19, .ref g20, .int w21, .ref g22, .ref g23, .ref g24, .int w25, .int w26, .int w27, .ref g28, .ref g29, .int sum, .ref g31, .ref g32, .ref g33])), (g1, .inl (T 0, 282, .inl fa)), (g28, .inl (T 0, 7, .inl fo)), (g29, .inl (T 0, 7, .inl gb42))] H locs → lv_has ls 5 [(4, .int (nI k42)), (0, .ref o), (1, .int (nI 0)), (2, .int (nI u)), (3, .int sum)] → W p l e (rmD 9 0 0) s m args below meth c H locs 0 0 (MQ below (gQ D A (q_m_laysf0 T pp so_ n o u sum w0 g1 g2 g3 g4 tp w6 w7 w8 w9 w10 w11 w12 w13 w14 g15 w16 g17 w18 w19 g20 w21 g22 g23 g24 w25 w26 w27 g28 g29 w30 g31 g32 g33 fa fo fp)) args s 0 0 A) (F0 m 42 ls []) := by
          intro fu_42
          induction fu_42 with
          | zero => intro k42 gb42 hk42 hcb hmu; exact absurd hmu (Nat.not_lt_zero _)
          | succ fu_42 ih_42 =>
            intro k42 gb42 hk42 hcb hmu_42 H locs ls V hl
            refine lv_iload hx hb dX8_lays_42 (lv_at hl 0 rfl) ?_
            refine lv_iload_n hx hb dX8_lays_44 rfl (lv_at hl 2 rfl) ?_
            refine lv_icmp_ge (tgt := 68) hx hb dX8_lays_45 (by decide) (fun c_17 => ?_) (fun c_17 => ?_)
            · skip
              have c_17 := b_le (by omega) (by omega) c_17
              exact g_vret (Qr := (q_m_laysf0 T pp so_ n o u sum w0 g1 g2 g3 g4 tp w6 w7 w8 w9 w10 w11 w12 w13 w14 g15 w16 g17 w18 w19 g20 w21 g22 g23 g24 w25 w26 w27 g28 g29 w30 g31 g32 g33 fa fo fp)) hC V ⟨(Nat.le_of_ble_eq_true rfl), (Nat.le_of_ble_eq_true rfl)⟩ ⟨sum, fo, gb42, rfl, rfl, (fun _ _ => rfl), (by rw [show n - 0 = 0 by omega]; show RST n fa (upR n fa so_ pp) _ _; rw [ur_y f_13]; exact (rs_up h_st h_sum (by omega) (Or.inl c_15) (fun i hi => (hcb i (by omega)).trans (h_pp.2 i (by omega)).1)))⟩ dX8_lays_68
            · skip
              have c_17 := b_nle (by omega) (by omega) c_17
              refine lv_aload_n hx hb dX8_lays_48 rfl (lv_at hl 1 rfl) ?_
              refine g_get hC V (ci := 8) uwX8 0 rfl rfl 29 (by decide) w_941 rfl rfl dX8_lays_49 ?_
              refine lv_iload hx hb dX8_lays_52 (lv_at hl 0 rfl) ?_
              refine lv_aload_n hx hb dX8_lays_54 rfl (lv_at hl 1 rfl) ?_
              refine g_get hC V (ci := 8) uwX8 0 rfl rfl 28 (by decide) w_940 rfl rfl dX8_lays_55 ?_
              refine lv_iload hx hb dX8_lays_58 (lv_at hl 0 rfl) ?_
              refine g_iald hC V 2 rfl (vp_in_nI (by omega) (by omega)) (v := (fo k42)) (congrArg _ (nI_clamp (by omega))) dX8_lays_60 ?_
              refine g_iast hC V 3 rfl (vp_in_nI (by omega) (by omega)) (f' := (upd gb42 k42 (fo k42))) (by rw [nI_clamp (by omega)]) (ws' := [(o, .inr (8, [.int w0, .ref g1, .ref g2, .ref g3, .ref g4, .int (nI tp), .int w6, .int w7, .int w8, .int w9, .int w10, .int w11, .int w12, .int w13, .int w14, .ref g15, .int w16, .ref g17, .int w18, .int w19, .ref g20, .int w21, .ref g22, .ref g23, .ref g24, .int w25, .int w26, .int w27, .ref g28, .ref g29, .int sum, .ref g31, .ref g32, .ref g33])), (g1, .inl (T 0, 282, .inl fa)), (g28, .inl (T 0, 7, .inl fo)), (g29, .inl (T 0, 7, .inl (upd gb42 k42 (fo k42))))]) rfl dX8_lays_61 (fun H locs V => ?_)
              refine lv_iinc (v := (nI (k42 + 1))) (lv' := [(4, .int (nI (k42 + 1))), (0, .ref o), (1, .int (nI 0)), (2, .int (nI u)), (3, .int sum)]) hx hb dX8_lays_62 hl (k := 0) rfl (nI_1 _) (by decide) rfl (fun ls hl => ?_)
              refine lv_goto (tgt := 42) hx hb dX8_lays_65 (by decide) ?_
              exact ih_42 (k42 + 1) (upd gb42 k42 (fo k42)) (by omega) (up_one (p := fun j x => x = fo j) hcb rfl) (by omega) _ _ _ V (lv_sub hl [0, 1, 2, 3, 4] rfl)
        exact L_16 _ 0 fp (by omega) (fun i h => absurd h (Nat.not_lt_zero _)) (Nat.lt_succ_self _) _ _ _ V (lv_sub hl [0, 1, 2, 3, 4] rfl)
      · skip
        refine lv_iload_n hx hb dX8_lays_25 rfl (lv_at hl 3 rfl) ?_
        refine lv_aload_n hx hb dX8_lays_26 rfl (lv_at hl 0 rfl) ?_
        refine g_get hC V (ci := 8) uwX8 0 rfl rfl 30 (by decide) w_942 rfl rfl dX8_lays_27 ?_
        refine lv_icmp_lt (tgt := 34) hx hb dX8_lays_30 (by decide) (fun c_18 => ?_) (fun c_18 => ?_)
        · skip
          refine lv_aload_n hx hb dX8_lays_34 rfl (lv_at hl 0 rfl) ?_
          refine lv_iload_n hx hb dX8_lays_35 rfl (lv_at hl 3 rfl) ?_
          refine g_put hC V (ci := 8) uwX8 tyX8 tyX8_ok nmX8 0 rfl rfl 30 (by decide) w_942 rfl rfl rfl rfl (Nat.le_of_ble_eq_true rfl) (ws' := [(o, .inr (8, [.int w0, .ref g1, .ref g2, .ref g3, .ref g4, .int (nI tp), .int w6, .int w7, .int w8, .int w9, .int w10, .int w11, .int w12, .int w13, .int w14, .ref g15, .int w16, .ref g17, .int w18, .int w19, .ref g20, .int w21, .ref g22, .ref g23, .ref g24, .int w25, .int w26, .int w27, .ref g28, .ref g29, .int sum, .ref g31, .ref g32, .ref g33])), (g1, .inl (T 0, 282, .inl fa)), (g28, .inl (T 0, 7, .inl fo)), (g29, .inl (T 0, 7, .inl fp))]) rfl dX8_lays_36 (fun H locs V => ?_)
          refine lv_iconst (v := (nI 0)) hx hb dX8_lays_39 (by decide +kernel) ?_
          refine lv_istore (lv' := [(4, .int (nI 0)), (0, .ref o), (1, .int (nI 0)), (2, .int (nI u)), (3, .int sum)]) hx hb dX8_lays_40 hl (by decide) rfl (fun ls hl => ?_)
          have L_19 : ∀ (fu : Nat) (k42 : Nat) (gb42 : Nat → Int32), k42 ≤ 0 → (∀ j, j < k42 → gb42 j = fo j) → 0 - k42 < fu → ∀ (H : Heap) (locs : List Loc) (ls : Array Slot), gW D T A s [(o, .inr (8, [.int w0, .ref g1, .ref g2, .ref g3, .ref g4, .int (nI tp), .int w6, .int w7, .int w8, .int w9, .int w10, .int w11, .int w12, .int w13, .int w14, .ref g15, .int w16, .ref g17, .int w18, .int w19, .ref g20, .int w21, .ref g22, .ref g23, .ref g24, .int w25, .int w26, .int w27, .ref g28, .ref g29, .int sum, .ref g31, .ref g32, .ref g33])), (g1, .inl (T 0, 282, .inl fa)), (g28, .inl (T 0, 7, .inl fo)), (g29, .inl (T 0, 7, .inl gb42))] H locs → lv_has ls 5 [(4, .int (nI k42)), (0, .ref o), (1, .int (nI 0)), (2, .int (nI u)), (3, .int sum)] → W p l e (rmD 9 0 0) s m args below meth c H locs 0 0 (MQ below (gQ D A (q_m_laysf0 T pp so_ n o u sum w0 g1 g2 g3 g4 tp w6 w7 w8 w9 w10 w11 w12 w13 w14 g15 w16 g17 w18 w19 g20 w21 g22 g23 g24 w25 w26 w27 g28 g29 w30 g31 g32 g33 fa fo fp)) args s 0 0 A) (F0 m 42 ls []) := by
            intro fu_42
            induction fu_42 with
            | zero => intro k42 gb42 hk42 hcb hmu; exact absurd hmu (Nat.not_lt_zero _)
            | succ fu_42 ih_42 =>
              intro k42 gb42 hk42 hcb hmu_42 H locs ls V hl
              refine lv_iload hx hb dX8_lays_42 (lv_at hl 0 rfl) ?_
              refine lv_iload_n hx hb dX8_lays_44 rfl (lv_at hl 2 rfl) ?_
              refine lv_icmp_ge (tgt := 68) hx hb dX8_lays_45 (by decide) (fun c_20 => ?_) (fun c_20 => ?_)
              · skip
                have c_20 := b_le (by omega) (by omega) c_20
                exact g_vret (Qr := (q_m_laysf0 T pp so_ n o u sum w0 g1 g2 g3 g4 tp w6 w7 w8 w9 w10 w11 w12 w13 w14 g15 w16 g17 w18 w19 g20 w21 g22 g23 g24 w25 w26 w27 g28 g29 w30 g31 g32 g33 fa fo fp)) hC V ⟨(Nat.le_of_ble_eq_true rfl), (Nat.le_of_ble_eq_true rfl)⟩ ⟨sum, fo, gb42, rfl, rfl, (fun _ _ => rfl), (by rw [show n - 0 = 0 by omega]; show RST n fa (upR n fa so_ pp) _ _; rw [ur_y f_13]; exact (rs_up h_st h_sum (by omega) (Or.inr c_18) (fun i hi => (hcb i (by omega)).trans (h_pp.2 i (by omega)).1)))⟩ dX8_lays_68
              · skip
                have c_20 := b_nle (by omega) (by omega) c_20
                refine lv_aload_n hx hb dX8_lays_48 rfl (lv_at hl 1 rfl) ?_
                refine g_get hC V (ci := 8) uwX8 0 rfl rfl 29 (by decide) w_941 rfl rfl dX8_lays_49 ?_
                refine lv_iload hx hb dX8_lays_52 (lv_at hl 0 rfl) ?_
                refine lv_aload_n hx hb dX8_lays_54 rfl (lv_at hl 1 rfl) ?_
                refine g_get hC V (ci := 8) uwX8 0 rfl rfl 28 (by decide) w_940 rfl rfl dX8_lays_55 ?_
                refine lv_iload hx hb dX8_lays_58 (lv_at hl 0 rfl) ?_
                refine g_iald hC V 2 rfl (vp_in_nI (by omega) (by omega)) (v := (fo k42)) (congrArg _ (nI_clamp (by omega))) dX8_lays_60 ?_
                refine g_iast hC V 3 rfl (vp_in_nI (by omega) (by omega)) (f' := (upd gb42 k42 (fo k42))) (by rw [nI_clamp (by omega)]) (ws' := [(o, .inr (8, [.int w0, .ref g1, .ref g2, .ref g3, .ref g4, .int (nI tp), .int w6, .int w7, .int w8, .int w9, .int w10, .int w11, .int w12, .int w13, .int w14, .ref g15, .int w16, .ref g17, .int w18, .int w19, .ref g20, .int w21, .ref g22, .ref g23, .ref g24, .int w25, .int w26, .int w27, .ref g28, .ref g29, .int sum, .ref g31, .ref g32, .ref g33])), (g1, .inl (T 0, 282, .inl fa)), (g28, .inl (T 0, 7, .inl fo)), (g29, .inl (T 0, 7, .inl (upd gb42 k42 (fo k42))))]) rfl dX8_lays_61 (fun H locs V => ?_)
                refine lv_iinc (v := (nI (k42 + 1))) (lv' := [(4, .int (nI (k42 + 1))), (0, .ref o), (1, .int (nI 0)), (2, .int (nI u)), (3, .int sum)]) hx hb dX8_lays_62 hl (k := 0) rfl (nI_1 _) (by decide) rfl (fun ls hl => ?_)
                refine lv_goto (tgt := 42) hx hb dX8_lays_65 (by decide) ?_
                exact ih_42 (k42 + 1) (upd gb42 k42 (fo k42)) (by omega) (up_one (p := fun j x => x = fo j) hcb rfl) (by omega) _ _ _ V (lv_sub hl [0, 1, 2, 3, 4] rfl)
          exact L_19 _ 0 fp (by omega) (fun i h => absurd h (Nat.not_lt_zero _)) (Nat.lt_succ_self _) _ _ _ V (lv_sub hl [0, 1, 2, 3, 4] rfl)
        · skip
          exact g_vret (Qr := (q_m_laysf0 T pp so_ n o u sum w0 g1 g2 g3 g4 tp w6 w7 w8 w9 w10 w11 w12 w13 w14 g15 w16 g17 w18 w19 g20 w21 g22 g23 g24 w25 w26 w27 g28 g29 w30 g31 g32 g33 fa fo fp)) hC V ⟨(Nat.le_of_ble_eq_true rfl), (Nat.le_of_ble_eq_true rfl)⟩ ⟨w30, fo, fp, rfl, rfl, (fun _ _ => rfl), (by rw [show n - 0 = 0 by omega]; show RST n fa (upR n fa so_ pp) _ _; rw [ur_y f_13]; exact (rs_no h_st h_sum (by omega) c_15 c_18))⟩ dX8_lays_33
    · have V : gW D T A s [(o, .inr (8, [.int w0, .ref g1, .ref g2, .ref g3, .ref g4, .int (nI tp), .int w6, .int w7, .int w8, .int w9, .int w10, .int w11, .int w12, .int w13, .int w14, .ref g15, .int w16, .ref g17, .int w18, .int w19, .ref g20, .int w21, .ref g22, .ref g23, .ref g24, .int w25, .int w26, .int w27, .ref g28, .ref g29, .int w30, .ref g31, .ref g32, .ref g33])), (g1, .inl (T 0, 282, .inl fa)), (g28, .inl (T 0, 7, .inl fo)), (g29, .inl (T 0, 7, .inl fp))] H locs := V _ [0, 0, 0] rfl rfl rfl (by decide +kernel) rfl
      show W p l e _ s m args below meth c H locs _ _ _ (F0 m 14 ls [.int (nI 0)])
      refine lv_if_eq (tgt := 33) hx hb dX8_lays_14 (by decide) (fun _ => ?_) (fun c => absurd (show (nI 0) = 0 by decide +kernel) c)
      exact g_vret (Qr := (q_m_laysf0 T pp so_ n o u sum w0 g1 g2 g3 g4 tp w6 w7 w8 w9 w10 w11 w12 w13 w14 g15 w16 g17 w18 w19 g20 w21 g22 g23 g24 w25 w26 w27 g28 g29 w30 g31 g32 g33 fa fo fp)) hC V ⟨(Nat.le_of_ble_eq_true rfl), (Nat.le_of_ble_eq_true rfl)⟩ ⟨w30, fo, fp, rfl, rfl, (fun _ _ => rfl), (by rw [show n - 0 = 0 by omega]; show RST n fa (upR n fa so_ pp) _ _; rw [ur_n f_14]; exact h_st)⟩ dX8_lays_33

def q_m_ropes_f (T : Nat → ClassId) (n : Nat) (o : Nat) (wh : Int32) (w0 : Int32) (g1 : Nat) (g2 : Nat) (g3 : Nat) (g4 : Nat) (tp : Nat) (w6 : Int32) (w7 : Int32) (w8 : Int32) (w9 : Int32) (w10 : Int32) (w11 : Int32) (w12 : Int32) (w13 : Int32) (w14 : Int32) (g15 : Nat) (w16 : Int32) (g17 : Nat) (w18 : Int32) (w19 : Int32) (g20 : Nat) (w21 : Int32) (g22 : Nat) (g23 : Nat) (g24 : Nat) (w25 : Int32) (w26 : Int32) (w27 : Int32) (g28 : Nat) (g29 : Nat) (w30 : Int32) (g31 : Nat) (g32 : Nat) (g33 : Nat) (fa : Nat → Int32) (fo : Nat → Int32) (fp : Nat → Int32) : Option Value → va_W → Prop := fun rr ww => (∃ (z : Int32) (bs : Int32) (go : Nat → Int32) (gp : Nat → Int32), rr = some (.int z) ∧ ww = [(o, .inr (8, [.int (nI 0), .ref g1, .ref g2, .ref g3, .ref g4, .int (nI tp), .int w6, .int w7, .int w8, .int w9, .int w10, .int w11, .int w12, .int w13, .int w14, .ref g15, .int w16, .ref g17, .int w18, .int w19, .ref g20, .int w21, .ref g22, .ref g23, .ref g24, .int w25, .int w26, .int w27, .ref g28, .ref g29, .int bs, .ref g31, .ref g32, .ref g33])), (g1, .inl (T 0, 282, .inl fa)), (g28, .inl (T 0, 7, .inl go)), (g29, .inl (T 0, 7, .inl gp))] ∧ z = rpA n fa wh)
set_option maxHeartbeats 4000000 in
set_option maxRecDepth 100000 in
theorem m_ropes_f (l : Launch) (D : va_G) (T : Nat → ClassId) (n : Nat) (o : Nat) (wh : Int32) (w0 : Int32) (g1 : Nat) (g2 : Nat) (g3 : Nat) (g4 : Nat) (tp : Nat) (w6 : Int32) (w7 : Int32) (w8 : Int32) (w9 : Int32) (w10 : Int32) (w11 : Int32) (w12 : Int32) (w13 : Int32) (w14 : Int32) (g15 : Nat) (w16 : Int32) (g17 : Nat) (w18 : Int32) (w19 : Int32) (g20 : Nat) (w21 : Int32) (g22 : Nat) (g23 : Nat) (g24 : Nat) (w25 : Int32) (w26 : Int32) (w27 : Int32) (g28 : Nat) (g29 : Nat) (w30 : Int32) (g31 : Nat) (g32 : Nat) (g33 : Nat) (fa : Nat → Int32) (fo : Nat → Int32) (fp : Nat → Int32) (h_a : MI n fa) : Ct l yX8_ropes cX8_ropes 2 (some .int) 10 0 0 D T [.ref o, .int wh] [(o, .inr (8, [.int w0, .ref g1, .ref g2, .ref g3, .ref g4, .int (nI tp), .int w6, .int w7, .int w8, .int w9, .int w10, .int w11, .int w12, .int w13, .int w14, .ref g15, .int w16, .ref g17, .int w18, .int w19, .ref g20, .int w21, .ref g22, .ref g23, .ref g24, .int w25, .int w26, .int w27, .ref g28, .ref g29, .int w30, .ref g31, .ref g32, .ref g33])), (g1, .inl (T 0, 282, .inl fa)), (g28, .inl (T 0, 7, .inl fo)), (g29, .inl (T 0, 7, .inl fp))] (q_m_ropes_f T n o wh w0 g1 g2 g3 g4 tp w6 w7 w8 w9 w10 w11 w12 w13 w14 g15 w16 g17 w18 w19 g20 w21 g22 g23 g24 w25 w26 w27 g28 g29 w30 g31 g32 g33 fa fo fp) := by
  refine Ct.of (cc := cX8_ropes) (maxL := 2) (ret := (some .int)) (by decide) (Nat.le_of_ble_eq_true rfl) ?_
  intro p e s m args below meth c A ls hC hnm V hl
  obtain ⟨hx, hb, hr, hml, hown, hts, hlocks⟩ := id hC
  generalize hH : s.heap = H at V ⊢
  clear hH
  have hl : lv_has ls 2 [(0, .ref o), (1, .int wh)] := hl
  generalize hlo : ([] : List Loc) = locs at V ⊢
  clear hlo
  have ms0 := ms_rf h_a
  have hn10 := h_a.1
  refine lv_aload_n hx hb dX8_ropes_0 rfl (lv_at hl 0 rfl) ?_
  refine lv_iconst (v := (nI 0)) hx hb dX8_ropes_1 (by decide +kernel) ?_
  refine g_put hC V (ci := 8) uwX8 tyX8 tyX8_ok nmX8 0 rfl rfl 0 (by decide) w_912 rfl rfl rfl rfl (Nat.le_of_ble_eq_true rfl) (ws' := [(o, .inr (8, [.int (nI 0), .ref g1, .ref g2, .ref g3, .ref g4, .int (nI tp), .int w6, .int w7, .int w8, .int w9, .int w10, .int w11, .int w12, .int w13, .int w14, .ref g15, .int w16, .ref g17, .int w18, .int w19, .ref g20, .int w21, .ref g22, .ref g23, .ref g24, .int w25, .int w26, .int w27, .ref g28, .ref g29, .int w30, .ref g31, .ref g32, .ref g33])), (g1, .inl (T 0, 282, .inl fa)), (g28, .inl (T 0, 7, .inl fo)), (g29, .inl (T 0, 7, .inl fp))]) rfl dX8_ropes_2 (fun H locs V => ?_)
  refine lv_iload_n hx hb dX8_ropes_5 rfl (lv_at hl 1 rfl) ?_
  refine lv_if_eq (tgt := 33) hx hb dX8_ropes_6 (by decide) (fun c_1 => ?_) (fun c_1 => ?_)
  · skip
    refine lv_aload_n hx hb dX8_ropes_33 rfl (lv_at hl 0 rfl) ?_
    refine g_get hC V (ci := 8) uwX8 0 rfl rfl 1 (by decide) w_913 rfl rfl dX8_ropes_34 ?_
    refine lv_iconst (v := (nI 0)) hx hb dX8_ropes_37 (by decide +kernel) ?_
    refine g_iald hC V 1 rfl (vp_in_nI (by decide) (by decide)) (v := (nI n)) (by rw [nI_clamp (by decide)]; first | rfl | exact h_a.2.1) dX8_ropes_38 ?_
    refine lv_bipush (v := (nI 7)) hx hb dX8_ropes_39 (by decide +kernel) ?_
    refine lv_icmp_le (tgt := 47) hx hb dX8_ropes_41 (by decide) (fun c_2 => ?_) (fun c_2 => ?_)
    · skip
      have c_2 := b_le (by omega) (by omega) c_2
      refine lv_aload_n hx hb dX8_ropes_47 rfl (lv_at hl 0 rfl) ?_
      refine g_get hC V (ci := 8) uwX8 0 rfl rfl 1 (by decide) w_913 rfl rfl dX8_ropes_48 ?_
      refine lv_iconst (v := (nI 0)) hx hb dX8_ropes_51 (by decide +kernel) ?_
      refine g_iald hC V 1 rfl (vp_in_nI (by decide) (by decide)) (v := (nI n)) (by rw [nI_clamp (by decide)]; first | rfl | exact h_a.2.1) dX8_ropes_52 ?_
      refine lv_if_ne (tgt := 59) hx hb dX8_ropes_53 (by decide) (fun c_3 => ?_) (fun c_3 => ?_)
      · skip
        rw [show (0 : Int32) = nI 0 from rfl] at c_3
        have c_3 := b_ne (by omega) (by omega) c_3
        refine lv_aload_n hx hb dX8_ropes_59 rfl (lv_at hl 0 rfl) ?_
        refine lv_iconst (v := (-1)) hx hb dX8_ropes_60 (by decide +kernel) ?_
        refine g_put hC V (ci := 8) uwX8 tyX8 tyX8_ok nmX8 0 rfl rfl 30 (by decide) w_942 rfl rfl rfl rfl (Nat.le_of_ble_eq_true rfl) (ws' := [(o, .inr (8, [.int (nI 0), .ref g1, .ref g2, .ref g3, .ref g4, .int (nI tp), .int w6, .int w7, .int w8, .int w9, .int w10, .int w11, .int w12, .int w13, .int w14, .ref g15, .int w16, .ref g17, .int w18, .int w19, .ref g20, .int w21, .ref g22, .ref g23, .ref g24, .int w25, .int w26, .int w27, .ref g28, .ref g29, .int (-1), .ref g31, .ref g32, .ref g33])), (g1, .inl (T 0, 282, .inl fa)), (g28, .inl (T 0, 7, .inl fo)), (g29, .inl (T 0, 7, .inl fp))]) rfl dX8_ropes_61 (fun H locs V => ?_)
        refine lv_aload_n hx hb dX8_ropes_64 rfl (lv_at hl 0 rfl) ?_
        refine lv_iconst (v := (nI 0)) hx hb dX8_ropes_65 (by decide +kernel) ?_
        refine lv_iconst (v := (nI 0)) hx hb dX8_ropes_66 (by decide +kernel) ?_
        refine lv_iconst (v := (nI 0)) hx hb dX8_ropes_67 (by decide +kernel) ?_
        refine g_callV (wr := []) (nA := 3) hC V hl.1 (m_laysf0 l D T ([]) none n o 0 (nI 0) (nI 0) g1 g2 g3 g4 tp w6 w7 w8 w9 w10 w11 w12 w13 w14 g15 w16 g17 w18 w19 g20 w21 g22 g23 g24 w25 w26 w27 g28 g29 (-1) g31 g32 g33 fa fo fp h_a (li_0 _) (fun j h => absurd h (Nat.not_lt_zero _)) (ub_0 _) (by omega) (by omega) (by omega) ⟨rfl, fun j h => absurd h (Nat.not_lt_zero _)⟩ ur_0 rfl (Nat.le_refl _) rfl) w_1320 w_1322 w_s75 w_9 w_1323 (by decide +kernel) rfl ⟨(Nat.le_of_ble_eq_true rfl), (Nat.le_of_ble_eq_true rfl)⟩ 0 (ci := 8) rfl rfl [0, 1, 2, 3] [] rfl rfl rfl rfl (by decide) (Nat.le_of_ble_eq_true rfl) dX8_ropes_68 ⟨(Nat.le_of_ble_eq_true rfl), (Nat.le_of_ble_eq_true rfl)⟩ rfl (fun r w1 H locs hQ V => ?_)
        obtain ⟨bs_4, go_5, gp_6, rfl, rfl, f_7, f_8⟩ := hQ
        have V : gW D T A s [(o, .inr (8, [.int (nI 0), .ref g1, .ref g2, .ref g3, .ref g4, .int (nI tp), .int w6, .int w7, .int w8, .int w9, .int w10, .int w11, .int w12, .int w13, .int w14, .ref g15, .int w16, .ref g17, .int w18, .int w19, .ref g20, .int w21, .ref g22, .ref g23, .ref g24, .int w25, .int w26, .int w27, .ref g28, .ref g29, .int bs_4, .ref g31, .ref g32, .ref g33])), (g1, .inl (T 0, 282, .inl fa)), (g28, .inl (T 0, 7, .inl go_5)), (g29, .inl (T 0, 7, .inl gp_6))] H locs := V
        show W p l e _ s m args below meth c H locs _ _ _ (F0 m 71 ls [])
        refine lv_iload_n hx hb dX8_ropes_71 rfl (lv_at hl 1 rfl) ?_
        refine lv_if_ne (tgt := 82) hx hb dX8_ropes_72 (by decide) (fun c_9 => ?_) (fun c_9 => ?_)
        · skip
          refine lv_aload_n hx hb dX8_ropes_82 rfl (lv_at hl 0 rfl) ?_
          refine g_get hC V (ci := 8) uwX8 0 rfl rfl 29 (by decide) w_941 rfl rfl dX8_ropes_83 ?_
          refine lv_iload_n hx hb dX8_ropes_86 rfl (lv_at hl 1 rfl) ?_
          refine lv_bipush (v := (nI 10)) hx hb dX8_ropes_87 (by decide +kernel) ?_
          refine lv_isub hx hb dX8_ropes_89 ?_
          exact absurd (by assumption) ‹¬ wh = 0›
        · skip
          refine lv_aload_n hx hb dX8_ropes_75 rfl (lv_at hl 0 rfl) ?_
          refine g_get hC V (ci := 8) uwX8 0 rfl rfl 30 (by decide) w_942 rfl rfl dX8_ropes_76 ?_
          refine lv_goto (tgt := 91) hx hb dX8_ropes_79 (by decide) ?_
          exact g_iret (Qr := (q_m_ropes_f T n o wh w0 g1 g2 g3 g4 tp w6 w7 w8 w9 w10 w11 w12 w13 w14 g15 w16 g17 w18 w19 g20 w21 g22 g23 g24 w25 w26 w27 g28 g29 w30 g31 g32 g33 fa fo fp)) hC V ⟨(Nat.le_of_ble_eq_true rfl), (Nat.le_of_ble_eq_true rfl)⟩ ⟨bs_4, bs_4, go_5, gp_6, rfl, rfl, (rpz_0 (fun q => q.1 c_1) (by omega) (by omega) f_8 c_9)⟩ dX8_ropes_91
      · skip
        rw [show (0 : Int32) = nI 0 from rfl] at c_3
        have c_3 := b_eq (by omega) (by omega) c_3
        refine lv_bipush (v := (-5)) hx hb dX8_ropes_56 (by decide +kernel) ?_
        exact g_iret (Qr := (q_m_ropes_f T n o wh w0 g1 g2 g3 g4 tp w6 w7 w8 w9 w10 w11 w12 w13 w14 g15 w16 g17 w18 w19 g20 w21 g22 g23 g24 w25 w26 w27 g28 g29 w30 g31 g32 g33 fa fo fp)) hC V ⟨(Nat.le_of_ble_eq_true rfl), (Nat.le_of_ble_eq_true rfl)⟩ ⟨(-5), w30, fo, fp, rfl, rfl, (rpz_5 (fun q => q.1 c_1) (by omega))⟩ dX8_ropes_58
    · skip
      have c_2 := b_nle (by omega) (by omega) c_2
      refine lv_bipush (v := (-4)) hx hb dX8_ropes_44 (by decide +kernel) ?_
      exact g_iret (Qr := (q_m_ropes_f T n o wh w0 g1 g2 g3 g4 tp w6 w7 w8 w9 w10 w11 w12 w13 w14 g15 w16 g17 w18 w19 g20 w21 g22 g23 g24 w25 w26 w27 g28 g29 w30 g31 g32 g33 fa fo fp)) hC V ⟨(Nat.le_of_ble_eq_true rfl), (Nat.le_of_ble_eq_true rfl)⟩ ⟨(-4), w30, fo, fp, rfl, rfl, (rpz_4 (fun q => q.1 c_1) (by omega))⟩ dX8_ropes_46
  · skip
    refine lv_iload_n hx hb dX8_ropes_9 rfl (lv_at hl 1 rfl) ?_
    refine lv_i2l (v := wh.toInt64) hx hb dX8_ropes_10 rfl ?_
    refine lv_ldc2 (v := (10)) hx hb hown (hts _ w_1257) dX8_ropes_11 ?_
    refine g_vl (y := (nI 10).toInt64) (by decide +kernel) ?_
    refine lv_bipush (v := (nI 9)) hx hb dX8_ropes_14 (by decide +kernel) ?_
    refine lv_aload_n hx hb dX8_ropes_16 rfl (lv_at hl 0 rfl) ?_
    refine g_get hC V (ci := 8) uwX8 0 rfl rfl 1 (by decide) w_913 rfl rfl dX8_ropes_17 ?_
    refine lv_iconst (v := (nI 0)) hx hb dX8_ropes_20 (by decide +kernel) ?_
    refine g_iald hC V 1 rfl (vp_in_nI (by decide) (by decide)) (v := (nI n)) (by rw [nI_clamp (by decide)]; first | rfl | exact h_a.2.1) dX8_ropes_21 ?_
    refine lv_iadd hx hb dX8_ropes_22 ?_
    refine g_vi (y := (nI (9 + n))) (nI_add _ _) ?_
    refine lv_i2l (v := (nI (9 + n)).toInt64) hx hb dX8_ropes_23 rfl ?_
    refine g_callSU (nA := 3) hC V hl.1 (m_within l D T wh (nI 10) (nI (9 + n))) w_1023 w_1024 w_9 w_1025 (by decide +kernel) rfl ⟨(Nat.le_of_ble_eq_true rfl), (Nat.le_of_ble_eq_true rfl)⟩ [] rfl rfl (Nat.le_of_ble_eq_true rfl) dX8_ropes_24 ⟨(Nat.le_of_ble_eq_true rfl), (Nat.le_of_ble_eq_true rfl)⟩ rfl (fun r w1 H locs hQ V => ?_)
    rcases hQ with ⟨rfl, rfl, f_10, f_11⟩ | ⟨rfl, rfl, f_12⟩
    · have V : gW D T A s [(o, .inr (8, [.int (nI 0), .ref g1, .ref g2, .ref g3, .ref g4, .int (nI tp), .int w6, .int w7, .int w8, .int w9, .int w10, .int w11, .int w12, .int w13, .int w14, .ref g15, .int w16, .ref g17, .int w18, .int w19, .ref g20, .int w21, .ref g22, .ref g23, .ref g24, .int w25, .int w26, .int w27, .ref g28, .ref g29, .int w30, .ref g31, .ref g32, .ref g33])), (g1, .inl (T 0, 282, .inl fa)), (g28, .inl (T 0, 7, .inl fo)), (g29, .inl (T 0, 7, .inl fp))] H locs := V _ [] rfl rfl rfl (by decide +kernel) rfl
      show W p l e _ s m args below meth c H locs _ _ _ (F0 m 27 ls [.int (nI 1)])
      obtain ⟨jw_13, hjw_13, ejw_13⟩ := w_ten hn10 f_10 f_11
      refine lv_if_ne (tgt := 33) hx hb dX8_ropes_27 (by decide) (fun _ => ?_) (fun c => absurd (show (nI 1) = 0 from c) (by decide +kernel))
      refine lv_aload_n hx hb dX8_ropes_33 rfl (lv_at hl 0 rfl) ?_
      refine g_get hC V (ci := 8) uwX8 0 rfl rfl 1 (by decide) w_913 rfl rfl dX8_ropes_34 ?_
      refine lv_iconst (v := (nI 0)) hx hb dX8_ropes_37 (by decide +kernel) ?_
      refine g_iald hC V 1 rfl (vp_in_nI (by decide) (by decide)) (v := (nI n)) (by rw [nI_clamp (by decide)]; first | rfl | exact h_a.2.1) dX8_ropes_38 ?_
      refine lv_bipush (v := (nI 7)) hx hb dX8_ropes_39 (by decide +kernel) ?_
      refine lv_icmp_le (tgt := 47) hx hb dX8_ropes_41 (by decide) (fun c_14 => ?_) (fun c_14 => ?_)
      · skip
        have c_14 := b_le (by omega) (by omega) c_14
        refine lv_aload_n hx hb dX8_ropes_47 rfl (lv_at hl 0 rfl) ?_
        refine g_get hC V (ci := 8) uwX8 0 rfl rfl 1 (by decide) w_913 rfl rfl dX8_ropes_48 ?_
        refine lv_iconst (v := (nI 0)) hx hb dX8_ropes_51 (by decide +kernel) ?_
        refine g_iald hC V 1 rfl (vp_in_nI (by decide) (by decide)) (v := (nI n)) (by rw [nI_clamp (by decide)]; first | rfl | exact h_a.2.1) dX8_ropes_52 ?_
        refine lv_if_ne (tgt := 59) hx hb dX8_ropes_53 (by decide) (fun c_15 => ?_) (fun c_15 => ?_)
        · skip
          rw [show (0 : Int32) = nI 0 from rfl] at c_15
          have c_15 := b_ne (by omega) (by omega) c_15
          refine lv_aload_n hx hb dX8_ropes_59 rfl (lv_at hl 0 rfl) ?_
          refine lv_iconst (v := (-1)) hx hb dX8_ropes_60 (by decide +kernel) ?_
          refine g_put hC V (ci := 8) uwX8 tyX8 tyX8_ok nmX8 0 rfl rfl 30 (by decide) w_942 rfl rfl rfl rfl (Nat.le_of_ble_eq_true rfl) (ws' := [(o, .inr (8, [.int (nI 0), .ref g1, .ref g2, .ref g3, .ref g4, .int (nI tp), .int w6, .int w7, .int w8, .int w9, .int w10, .int w11, .int w12, .int w13, .int w14, .ref g15, .int w16, .ref g17, .int w18, .int w19, .ref g20, .int w21, .ref g22, .ref g23, .ref g24, .int w25, .int w26, .int w27, .ref g28, .ref g29, .int (-1), .ref g31, .ref g32, .ref g33])), (g1, .inl (T 0, 282, .inl fa)), (g28, .inl (T 0, 7, .inl fo)), (g29, .inl (T 0, 7, .inl fp))]) rfl dX8_ropes_61 (fun H locs V => ?_)
          refine lv_aload_n hx hb dX8_ropes_64 rfl (lv_at hl 0 rfl) ?_
          refine lv_iconst (v := (nI 0)) hx hb dX8_ropes_65 (by decide +kernel) ?_
          refine lv_iconst (v := (nI 0)) hx hb dX8_ropes_66 (by decide +kernel) ?_
          refine lv_iconst (v := (nI 0)) hx hb dX8_ropes_67 (by decide +kernel) ?_
          refine g_callV (wr := []) (nA := 3) hC V hl.1 (m_laysf0 l D T ([]) none n o 0 (nI 0) (nI 0) g1 g2 g3 g4 tp w6 w7 w8 w9 w10 w11 w12 w13 w14 g15 w16 g17 w18 w19 g20 w21 g22 g23 g24 w25 w26 w27 g28 g29 (-1) g31 g32 g33 fa fo fp h_a (li_0 _) (fun j h => absurd h (Nat.not_lt_zero _)) (ub_0 _) (by omega) (by omega) (by omega) ⟨rfl, fun j h => absurd h (Nat.not_lt_zero _)⟩ ur_0 rfl (Nat.le_refl _) rfl) w_1320 w_1322 w_s75 w_9 w_1323 (by decide +kernel) rfl ⟨(Nat.le_of_ble_eq_true rfl), (Nat.le_of_ble_eq_true rfl)⟩ 0 (ci := 8) rfl rfl [0, 1, 2, 3] [] rfl rfl rfl rfl (by decide) (Nat.le_of_ble_eq_true rfl) dX8_ropes_68 ⟨(Nat.le_of_ble_eq_true rfl), (Nat.le_of_ble_eq_true rfl)⟩ rfl (fun r w1 H locs hQ V => ?_)
          obtain ⟨bs_16, go_17, gp_18, rfl, rfl, f_19, f_20⟩ := hQ
          have V : gW D T A s [(o, .inr (8, [.int (nI 0), .ref g1, .ref g2, .ref g3, .ref g4, .int (nI tp), .int w6, .int w7, .int w8, .int w9, .int w10, .int w11, .int w12, .int w13, .int w14, .ref g15, .int w16, .ref g17, .int w18, .int w19, .ref g20, .int w21, .ref g22, .ref g23, .ref g24, .int w25, .int w26, .int w27, .ref g28, .ref g29, .int bs_16, .ref g31, .ref g32, .ref g33])), (g1, .inl (T 0, 282, .inl fa)), (g28, .inl (T 0, 7, .inl go_17)), (g29, .inl (T 0, 7, .inl gp_18))] H locs := V
          show W p l e _ s m args below meth c H locs _ _ _ (F0 m 71 ls [])
          refine lv_iload_n hx hb dX8_ropes_71 rfl (lv_at hl 1 rfl) ?_
          refine lv_if_ne (tgt := 82) hx hb dX8_ropes_72 (by decide) (fun c_21 => ?_) (fun c_21 => ?_)
          · skip
            refine lv_aload_n hx hb dX8_ropes_82 rfl (lv_at hl 0 rfl) ?_
            refine g_get hC V (ci := 8) uwX8 0 rfl rfl 29 (by decide) w_941 rfl rfl dX8_ropes_83 ?_
            refine lv_iload_n hx hb dX8_ropes_86 rfl (lv_at hl 1 rfl) ?_
            refine lv_bipush (v := (nI 10)) hx hb dX8_ropes_87 (by decide +kernel) ?_
            refine lv_isub hx hb dX8_ropes_89 ?_
            refine g_vi (y := nI jw_13) ejw_13 ?_
            refine g_iald hC V 3 rfl (vp_in_nI (by omega) (by omega)) (v := (gp_18 jw_13)) (congrArg _ (nI_clamp (by omega))) dX8_ropes_90 ?_
            exact g_iret (Qr := (q_m_ropes_f T n o wh w0 g1 g2 g3 g4 tp w6 w7 w8 w9 w10 w11 w12 w13 w14 g15 w16 g17 w18 w19 g20 w21 g22 g23 g24 w25 w26 w27 g28 g29 w30 g31 g32 g33 fa fo fp)) hC V ⟨(Nat.le_of_ble_eq_true rfl), (Nat.le_of_ble_eq_true rfl)⟩ ⟨(gp_18 jw_13), bs_16, go_17, gp_18, rfl, rfl, (rpz_1 (fun q => q.2 (sw_y hjw_13 ejw_13)) (by omega) (by omega) f_20 c_21 ejw_13 hjw_13)⟩ dX8_ropes_91
          · skip
            refine lv_aload_n hx hb dX8_ropes_75 rfl (lv_at hl 0 rfl) ?_
            refine g_get hC V (ci := 8) uwX8 0 rfl rfl 30 (by decide) w_942 rfl rfl dX8_ropes_76 ?_
            refine lv_goto (tgt := 91) hx hb dX8_ropes_79 (by decide) ?_
            exact g_iret (Qr := (q_m_ropes_f T n o wh w0 g1 g2 g3 g4 tp w6 w7 w8 w9 w10 w11 w12 w13 w14 g15 w16 g17 w18 w19 g20 w21 g22 g23 g24 w25 w26 w27 g28 g29 w30 g31 g32 g33 fa fo fp)) hC V ⟨(Nat.le_of_ble_eq_true rfl), (Nat.le_of_ble_eq_true rfl)⟩ ⟨bs_16, bs_16, go_17, gp_18, rfl, rfl, (rpz_0 (fun q => q.2 (sw_y hjw_13 ejw_13)) (by omega) (by omega) f_20 c_21)⟩ dX8_ropes_91
        · skip
          rw [show (0 : Int32) = nI 0 from rfl] at c_15
          have c_15 := b_eq (by omega) (by omega) c_15
          refine lv_bipush (v := (-5)) hx hb dX8_ropes_56 (by decide +kernel) ?_
          exact g_iret (Qr := (q_m_ropes_f T n o wh w0 g1 g2 g3 g4 tp w6 w7 w8 w9 w10 w11 w12 w13 w14 g15 w16 g17 w18 w19 g20 w21 g22 g23 g24 w25 w26 w27 g28 g29 w30 g31 g32 g33 fa fo fp)) hC V ⟨(Nat.le_of_ble_eq_true rfl), (Nat.le_of_ble_eq_true rfl)⟩ ⟨(-5), w30, fo, fp, rfl, rfl, (rpz_5 (fun q => q.2 (sw_y hjw_13 ejw_13)) (by omega))⟩ dX8_ropes_58
      · skip
        have c_14 := b_nle (by omega) (by omega) c_14
        refine lv_bipush (v := (-4)) hx hb dX8_ropes_44 (by decide +kernel) ?_
        exact g_iret (Qr := (q_m_ropes_f T n o wh w0 g1 g2 g3 g4 tp w6 w7 w8 w9 w10 w11 w12 w13 w14 g15 w16 g17 w18 w19 g20 w21 g22 g23 g24 w25 w26 w27 g28 g29 w30 g31 g32 g33 fa fo fp)) hC V ⟨(Nat.le_of_ble_eq_true rfl), (Nat.le_of_ble_eq_true rfl)⟩ ⟨(-4), w30, fo, fp, rfl, rfl, (rpz_4 (fun q => q.2 (sw_y hjw_13 ejw_13)) (by omega))⟩ dX8_ropes_46
    · have V : gW D T A s [(o, .inr (8, [.int (nI 0), .ref g1, .ref g2, .ref g3, .ref g4, .int (nI tp), .int w6, .int w7, .int w8, .int w9, .int w10, .int w11, .int w12, .int w13, .int w14, .ref g15, .int w16, .ref g17, .int w18, .int w19, .ref g20, .int w21, .ref g22, .ref g23, .ref g24, .int w25, .int w26, .int w27, .ref g28, .ref g29, .int w30, .ref g31, .ref g32, .ref g33])), (g1, .inl (T 0, 282, .inl fa)), (g28, .inl (T 0, 7, .inl fo)), (g29, .inl (T 0, 7, .inl fp))] H locs := V _ [] rfl rfl rfl (by decide +kernel) rfl
      show W p l e _ s m args below meth c H locs _ _ _ (F0 m 27 ls [.int (nI 0)])
      refine lv_if_ne (tgt := 33) hx hb dX8_ropes_27 (by decide) (fun c => absurd (show (nI 0) = 0 by decide +kernel) c) (fun _ => ?_)
      refine lv_bipush (v := (-2)) hx hb dX8_ropes_30 (by decide +kernel) ?_
      exact g_iret (Qr := (q_m_ropes_f T n o wh w0 g1 g2 g3 g4 tp w6 w7 w8 w9 w10 w11 w12 w13 w14 g15 w16 g17 w18 w19 g20 w21 g22 g23 g24 w25 w26 w27 g28 g29 w30 g31 g32 g33 fa fo fp)) hC V ⟨(Nat.le_of_ble_eq_true rfl), (Nat.le_of_ble_eq_true rfl)⟩ ⟨(-2), w30, fo, fp, rfl, rfl, (rpz_2 c_1 (sw_n2 hn10 f_12))⟩ dX8_ropes_32
