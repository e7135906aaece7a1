theorem fr_smith {n : Nat} {f : Nat → Int32} {x4 x14 x24 x34 x44 x54 : Int32} (h : FR n f) (hn : n < 10) (b4 : bd x4 61) (b14 : bd x14 31) (b24 : bd x24 256) (b54 : bd x54 21) :
    FR (n + 1) (upd (upd (upd (upd (upd (upd (upd f (4 + n) x4) (14 + n) x14) (24 + n) x24) (34 + n) x34) (44 + n) x44) (54 + n) x54) 0 (nI (n + 1))) := by
  refine fr_add h hn up_same ?_ ?_ ?_ ?_ ?_ ?_
  · rw [up_other (by omega), up_other (by omega), up_other (by omega), up_other (by omega), up_other (by omega), up_other (by omega), up_other (by omega)]
  · intro j hj
    rw [up_other (hj 0 (by omega)), up_other (hj (54 + n) (by omega)), up_other (hj (44 + n) (by omega)), up_other (hj (34 + n) (by omega)), up_other (hj (24 + n) (by omega)), up_other (hj (14 + n) (by omega)), up_other (hj (4 + n) (by omega))]
  · rw [up_other (by omega), up_other (by omega), up_other (by omega), up_other (by omega), up_other (by omega), up_other (by omega), up_same]; exact b4
  · rw [up_other (by omega), up_other (by omega), up_other (by omega), up_other (by omega), up_other (by omega), up_same]; exact b14
  · rw [up_other (by omega), up_other (by omega), up_other (by omega), up_other (by omega), up_same]; exact b24
  · rw [up_other (by omega), up_same]; exact b54

def q_m_readSmith (T : Nat → ClassId) (n : Nat) (o : Nat) (w0 : Int32) (g1 : Nat) (g2 : Nat) (g3 : Nat) (g4 : Nat) (tp : Nat) (at_ : Nat) (be : Nat) (sz : Nat) (w9 : Int32) (w10 : Int32) (w11 : Int32) (w12 : Int32) (w13 : Int32) (w14 : Int32) (g15 : Nat) (w16 : Int32) (g17 : Nat) (w18 : Int32) (w19 : Int32) (g20 : Nat) (w21 : Int32) (g22 : Nat) (g23 : Nat) (g24 : Nat) (w25 : Int32) (w26 : Int32) (w27 : Int32) (g28 : Nat) (g29 : Nat) (w30 : Int32) (g31 : Nat) (g32 : Nat) (g33 : Nat) (ft : Nat → Int32) (ff : Nat → Int32) : Option Value → va_W → Prop := fun rr ww => (∃ (a2 : Nat) (b2 : Nat) (k2 : Int32) (n2 : Int32) (u2 : Int32) (l2 : Int32) (n3 : Nat) (gf : Nat → Int32), rr = none ∧ ww = [(o, .inr (8, [.int w0, .ref g1, .ref g2, .ref g3, .ref g4, .int (nI tp), .int (nI a2), .int (nI b2), .int (nI sz), .int k2, .int n2, .int u2, .int l2, .int w13, .int w14, .ref g15, .int w16, .ref g17, .int w18, .int w19, .ref g20, .int w21, .ref g22, .ref g23, .ref g24, .int w25, .int w26, .int w27, .ref g28, .ref g29, .int w30, .ref g31, .ref g32, .ref g33])), (g3, .inl (T 0, 900, .inl ft)), (g4, .inl (T 0, 94, .inl gf))] ∧ FR n3 gf ∧ (a2 ≤ b2 ∧ b2 ≤ sz) ∧ be ≤ b2 ∧ (u2 = 0 → w11 = 0))
set_option maxHeartbeats 4000000 in
set_option maxRecDepth 100000 in
theorem m_readSmith (l : Launch) (D : va_G) (T : Nat → ClassId) (n : Nat) (o : Nat) (w0 : Int32) (g1 : Nat) (g2 : Nat) (g3 : Nat) (g4 : Nat) (tp : Nat) (at_ : Nat) (be : Nat) (sz : Nat) (w9 : Int32) (w10 : Int32) (w11 : Int32) (w12 : Int32) (w13 : Int32) (w14 : Int32) (g15 : Nat) (w16 : Int32) (g17 : Nat) (w18 : Int32) (w19 : Int32) (g20 : Nat) (w21 : Int32) (g22 : Nat) (g23 : Nat) (g24 : Nat) (w25 : Int32) (w26 : Int32) (w27 : Int32) (g28 : Nat) (g29 : Nat) (w30 : Int32) (g31 : Nat) (g32 : Nat) (g33 : Nat) (ft : Nat → Int32) (ff : Nat → Int32) (h_sz : sz ≤ 900) (h_ab : at_ ≤ be ∧ be ≤ sz) (h_fr : FR n ff) : Ct l yX8_readSmith cX8_readSmith 8 none 8 0 0 D T [.ref o] [(o, .inr (8, [.int w0, .ref g1, .ref g2, .ref g3, .ref g4, .int (nI tp), .int (nI at_), .int (nI be), .int (nI sz), .int w9, .int w10, .int w11, .int w12, .int w13, .int w14, .ref g15, .int w16, .ref g17, .int w18, .int w19, .ref g20, .int w21, .ref g22, .ref g23, .ref g24, .int w25, .int w26, .int w27, .ref g28, .ref g29, .int w30, .ref g31, .ref g32, .ref g33])), (g3, .inl (T 0, 900, .inl ft)), (g4, .inl (T 0, 94, .inl ff))] (q_m_readSmith T n o w0 g1 g2 g3 g4 tp at_ be sz w9 w10 w11 w12 w13 w14 g15 w16 g17 w18 w19 g20 w21 g22 g23 g24 w25 w26 w27 g28 g29 w30 g31 g32 g33 ft ff) := by
  refine Ct.of (cc := cX8_readSmith) (maxL := 8) (ret := none) (by decide) (Nat.le_of_ble_eq_true rfl) ?_
  intro p e s m args below meth c A ls hC hnm V hl
  obtain ⟨hx, hb, hr, hml, hown, hts, hlocks⟩ := id hC
  generalize hH : s.heap = H at V ⊢
  clear hH
  have hl : lv_has ls 8 [(0, .ref o)] := hl
  generalize hlo : ([] : List Loc) = locs at V ⊢
  clear hlo
  have hn10 := h_fr.1
  refine lv_aload_n hx hb dX8_readSmith_0 rfl (lv_at hl 0 rfl) ?_
  refine g_get hC V (ci := 8) uwX8 0 rfl rfl 4 (by decide) w_916 rfl rfl dX8_readSmith_1 ?_
  refine lv_iconst (v := (nI 0)) hx hb dX8_readSmith_4 (by decide +kernel) ?_
  refine g_iald hC V 2 rfl (vp_in_nI (by decide) (by decide)) (v := (nI n)) (by rw [nI_clamp (by decide)]; first | rfl | exact h_fr.2.1) dX8_readSmith_5 ?_
  refine lv_istore_n (lv' := [(1, .int (nI n)), (0, .ref o)]) hx hb dX8_readSmith_6 rfl hl (by decide) rfl (fun ls hl => ?_)
  refine lv_iload_n hx hb dX8_readSmith_7 rfl (lv_at hl 0 rfl) ?_
  refine lv_bipush (v := (nI 10)) hx hb dX8_readSmith_8 (by decide +kernel) ?_
  refine lv_icmp_ne (tgt := 18) hx hb dX8_readSmith_10 (by decide) (fun c_1 => ?_) (fun c_1 => ?_)
  · skip
    have c_1 := b_ne (by omega) (by omega) c_1
    refine lv_aload_n hx hb dX8_readSmith_18 rfl (lv_at hl 1 rfl) ?_
    refine g_get hC V (ci := 8) uwX8 0 rfl rfl 11 (by decide) w_923 rfl rfl dX8_readSmith_19 ?_
    refine lv_if_eq (tgt := 26) hx hb dX8_readSmith_22 (by decide) (fun c_2 => ?_) (fun c_2 => ?_)
    · skip
      refine lv_aload_n hx hb dX8_readSmith_26 rfl (lv_at hl 1 rfl) ?_
      refine g_callV (wr := [(g4, .inl (T 0, 94, .inl ff))]) (nA := 0) hC V hl.1 (m_next l D T o w0 g1 g2 g3 g4 tp (nI at_) be sz w9 w10 w11 w12 w13 w14 g15 w16 g17 w18 w19 g20 w21 g22 g23 g24 w25 w26 w27 g28 g29 w30 g31 g32 g33 ft (by first | assumption | omega) (by first | assumption | omega)) w_1026 w_1028 w_s36 w_9 w_1029 (by decide +kernel) rfl ⟨(Nat.le_of_ble_eq_true rfl), (Nat.le_of_ble_eq_true rfl)⟩ 0 (ci := 8) rfl rfl [0, 1] [2] rfl rfl rfl rfl (by decide) (Nat.le_of_ble_eq_true rfl) dX8_readSmith_27 ⟨(Nat.le_of_ble_eq_true rfl), (Nat.le_of_ble_eq_true rfl)⟩ rfl (fun r w1 H locs hQ V => ?_)
      obtain ⟨a2_3, b2_4, k2_5, n2_6, rfl, rfl, f_7, f_8, f_9⟩ := hQ
      have V : gW D T A s [(g4, .inl (T 0, 94, .inl ff)), (o, .inr (8, [.int w0, .ref g1, .ref g2, .ref g3, .ref g4, .int (nI tp), .int (nI a2_3), .int (nI b2_4), .int (nI sz), .int k2_5, .int n2_6, .int w11, .int w12, .int w13, .int w14, .ref g15, .int w16, .ref g17, .int w18, .int w19, .ref g20, .int w21, .ref g22, .ref g23, .ref g24, .int w25, .int w26, .int w27, .ref g28, .ref g29, .int w30, .ref g31, .ref g32, .ref g33])), (g3, .inl (T 0, 900, .inl ft))] H locs := V
      show W p l e _ s m args below meth c H locs _ _ _ (F0 m 30 ls [])
      refine lv_aload_n hx hb dX8_readSmith_30 rfl (lv_at hl 1 rfl) ?_
      refine lv_iconst (v := (nI 0)) hx hb dX8_readSmith_31 (by decide +kernel) ?_
      refine lv_bipush (v := (nI 60)) hx hb dX8_readSmith_32 (by decide +kernel) ?_
      refine g_callV (wr := [(g4, .inl (T 0, 94, .inl ff))]) (nA := 2) hC V hl.1 (m_takes l D T o (nI 0) (nI 60) w0 g1 g2 g3 g4 tp a2_3 b2_4 sz k2_5 n2_6 w11 w12 w13 w14 g15 w16 g17 w18 w19 g20 w21 g22 g23 g24 w25 w26 w27 g28 g29 w30 g31 g32 g33 ft (by first | assumption | omega) (by first | assumption | omega)) w_1059 w_1061 w_s42 w_9 w_1062 (by decide +kernel) rfl ⟨(Nat.le_of_ble_eq_true rfl), (Nat.le_of_ble_eq_true rfl)⟩ 1 (ci := 8) rfl rfl [1, 2] [0] rfl rfl rfl rfl (by decide) (Nat.le_of_ble_eq_true rfl) dX8_readSmith_34 ⟨(Nat.le_of_ble_eq_true rfl), (Nat.le_of_ble_eq_true rfl)⟩ rfl (fun r w1 H locs hQ V => ?_)
      obtain ⟨z_10, a2_11, b2_12, k2_13, n2_14, u2_15, l2_16, rfl, rfl, f_17, f_18, f_19, f_20⟩ := hQ
      have V : gW D T A s [(g4, .inl (T 0, 94, .inl ff)), (o, .inr (8, [.int w0, .ref g1, .ref g2, .ref g3, .ref g4, .int (nI tp), .int (nI a2_11), .int (nI b2_12), .int (nI sz), .int k2_13, .int n2_14, .int u2_15, .int l2_16, .int w13, .int w14, .ref g15, .int w16, .ref g17, .int w18, .int w19, .ref g20, .int w21, .ref g22, .ref g23, .ref g24, .int w25, .int w26, .int w27, .ref g28, .ref g29, .int w30, .ref g31, .ref g32, .ref g33])), (g3, .inl (T 0, 900, .inl ft))] H locs := V
      show W p l e _ s m args below meth c H locs _ _ _ (F0 m 37 ls [.int z_10])
      refine lv_istore_n (lv' := [(2, .int z_10), (1, .int (nI n)), (0, .ref o)]) hx hb dX8_readSmith_37 rfl hl (by decide) rfl (fun ls hl => ?_)
      refine lv_aload_n hx hb dX8_readSmith_38 rfl (lv_at hl 2 rfl) ?_
      refine lv_iconst (v := (nI 1)) hx hb dX8_readSmith_39 (by decide +kernel) ?_
      refine lv_iconst (v := (nI 0)) hx hb dX8_readSmith_40 (by decide +kernel) ?_
      refine lv_bipush (v := (nI 30)) hx hb dX8_readSmith_41 (by decide +kernel) ?_
      refine lv_iconst (v := (nI 5)) hx hb dX8_readSmith_43 (by decide +kernel) ?_
      refine g_callV (wr := [(g4, .inl (T 0, 94, .inl ff))]) (nA := 4) hC V hl.1 (m_takesIf l D T o (nI 1) (nI 0) (nI 30) (nI 5) w0 g1 g2 g3 g4 tp a2_11 b2_12 sz k2_13 n2_14 u2_15 l2_16 w13 w14 g15 w16 g17 w18 w19 g20 w21 g22 g23 g24 w25 w26 w27 g28 g29 w30 g31 g32 g33 ft (by first | assumption | omega) (by first | assumption | omega)) w_1063 w_1065 w_s43 w_9 w_1066 (by decide +kernel) rfl ⟨(Nat.le_of_ble_eq_true rfl), (Nat.le_of_ble_eq_true rfl)⟩ 1 (ci := 8) rfl rfl [1, 2] [0] rfl rfl rfl rfl (by decide) (Nat.le_of_ble_eq_true rfl) dX8_readSmith_44 ⟨(Nat.le_of_ble_eq_true rfl), (Nat.le_of_ble_eq_true rfl)⟩ rfl (fun r w1 H locs hQ V => ?_)
      obtain ⟨z_21, a2_22, b2_23, k2_24, n2_25, u2_26, l2_27, rfl, rfl, f_28, f_29, f_30, f_31⟩ := hQ
      have V : gW D T A s [(g4, .inl (T 0, 94, .inl ff)), (o, .inr (8, [.int w0, .ref g1, .ref g2, .ref g3, .ref g4, .int (nI tp), .int (nI a2_22), .int (nI b2_23), .int (nI sz), .int k2_24, .int n2_25, .int u2_26, .int l2_27, .int w13, .int w14, .ref g15, .int w16, .ref g17, .int w18, .int w19, .ref g20, .int w21, .ref g22, .ref g23, .ref g24, .int w25, .int w26, .int w27, .ref g28, .ref g29, .int w30, .ref g31, .ref g32, .ref g33])), (g3, .inl (T 0, 900, .inl ft))] H locs := V
      show W p l e _ s m args below meth c H locs _ _ _ (F0 m 47 ls [.int z_21])
      refine lv_istore_n (lv' := [(3, .int z_21), (2, .int z_10), (1, .int (nI n)), (0, .ref o)]) hx hb dX8_readSmith_47 rfl hl (by decide) rfl (fun ls hl => ?_)
      refine lv_aload_n hx hb dX8_readSmith_48 rfl (lv_at hl 3 rfl) ?_
      refine lv_iconst (v := (nI 2)) hx hb dX8_readSmith_49 (by decide +kernel) ?_
      refine lv_iconst (v := (nI 0)) hx hb dX8_readSmith_50 (by decide +kernel) ?_
      refine lv_sipush (v := (nI 200)) hx hb dX8_readSmith_51 (by decide +kernel) ?_
      refine lv_iconst (v := (nI 0)) hx hb dX8_readSmith_54 (by decide +kernel) ?_
      refine g_callV (wr := [(g4, .inl (T 0, 94, .inl ff))]) (nA := 4) hC V hl.1 (m_takesIf l D T o (nI 2) (nI 0) (nI 200) (nI 0) w0 g1 g2 g3 g4 tp a2_22 b2_23 sz k2_24 n2_25 u2_26 l2_27 w13 w14 g15 w16 g17 w18 w19 g20 w21 g22 g23 g24 w25 w26 w27 g28 g29 w30 g31 g32 g33 ft (by first | assumption | omega) (by first | assumption | omega)) w_1063 w_1065 w_s43 w_9 w_1066 (by decide +kernel) rfl ⟨(Nat.le_of_ble_eq_true rfl), (Nat.le_of_ble_eq_true rfl)⟩ 1 (ci := 8) rfl rfl [1, 2] [0] rfl rfl rfl rfl (by decide) (Nat.le_of_ble_eq_true rfl) dX8_readSmith_55 ⟨(Nat.le_of_ble_eq_true rfl), (Nat.le_of_ble_eq_true rfl)⟩ rfl (fun r w1 H locs hQ V => ?_)
      obtain ⟨z_32, a2_33, b2_34, k2_35, n2_36, u2_37, l2_38, rfl, rfl, f_39, f_40, f_41, f_42⟩ := hQ
      have V : gW D T A s [(g4, .inl (T 0, 94, .inl ff)), (o, .inr (8, [.int w0, .ref g1, .ref g2, .ref g3, .ref g4, .int (nI tp), .int (nI a2_33), .int (nI b2_34), .int (nI sz), .int k2_35, .int n2_36, .int u2_37, .int l2_38, .int w13, .int w14, .ref g15, .int w16, .ref g17, .int w18, .int w19, .ref g20, .int w21, .ref g22, .ref g23, .ref g24, .int w25, .int w26, .int w27, .ref g28, .ref g29, .int w30, .ref g31, .ref g32, .ref g33])), (g3, .inl (T 0, 900, .inl ft))] H locs := V
      show W p l e _ s m args below meth c H locs _ _ _ (F0 m 58 ls [.int z_32])
      refine lv_istore (lv' := [(4, .int z_32), (3, .int z_21), (2, .int z_10), (1, .int (nI n)), (0, .ref o)]) hx hb dX8_readSmith_58 hl (by decide) rfl (fun ls hl => ?_)
      refine lv_aload_n hx hb dX8_readSmith_60 rfl (lv_at hl 4 rfl) ?_
      refine lv_iconst (v := (nI 3)) hx hb dX8_readSmith_61 (by decide +kernel) ?_
      refine lv_iconst (v := (nI 0)) hx hb dX8_readSmith_62 (by decide +kernel) ?_
      refine lv_sipush (v := (nI 200)) hx hb dX8_readSmith_63 (by decide +kernel) ?_
      refine lv_bipush (v := (nI 20)) hx hb dX8_readSmith_66 (by decide +kernel) ?_
      refine g_callV (wr := [(g4, .inl (T 0, 94, .inl ff))]) (nA := 4) hC V hl.1 (m_takesIf l D T o (nI 3) (nI 0) (nI 200) (nI 20) w0 g1 g2 g3 g4 tp a2_33 b2_34 sz k2_35 n2_36 u2_37 l2_38 w13 w14 g15 w16 g17 w18 w19 g20 w21 g22 g23 g24 w25 w26 w27 g28 g29 w30 g31 g32 g33 ft (by first | assumption | omega) (by first | assumption | omega)) w_1063 w_1065 w_s43 w_9 w_1066 (by decide +kernel) rfl ⟨(Nat.le_of_ble_eq_true rfl), (Nat.le_of_ble_eq_true rfl)⟩ 1 (ci := 8) rfl rfl [1, 2] [0] rfl rfl rfl rfl (by decide) (Nat.le_of_ble_eq_true rfl) dX8_readSmith_68 ⟨(Nat.le_of_ble_eq_true rfl), (Nat.le_of_ble_eq_true rfl)⟩ rfl (fun r w1 H locs hQ V => ?_)
      obtain ⟨z_43, a2_44, b2_45, k2_46, n2_47, u2_48, l2_49, rfl, rfl, f_50, f_51, f_52, f_53⟩ := hQ
      have V : gW D T A s [(g4, .inl (T 0, 94, .inl ff)), (o, .inr (8, [.int w0, .ref g1, .ref g2, .ref g3, .ref g4, .int (nI tp), .int (nI a2_44), .int (nI b2_45), .int (nI sz), .int k2_46, .int n2_47, .int u2_48, .int l2_49, .int w13, .int w14, .ref g15, .int w16, .ref g17, .int w18, .int w19, .ref g20, .int w21, .ref g22, .ref g23, .ref g24, .int w25, .int w26, .int w27, .ref g28, .ref g29, .int w30, .ref g31, .ref g32, .ref g33])), (g3, .inl (T 0, 900, .inl ft))] H locs := V
      show W p l e _ s m args below meth c H locs _ _ _ (F0 m 71 ls [.int z_43])
      refine lv_istore (lv' := [(5, .int z_43), (4, .int z_32), (3, .int z_21), (2, .int z_10), (1, .int (nI n)), (0, .ref o)]) hx hb dX8_readSmith_71 hl (by decide) rfl (fun ls hl => ?_)
      refine lv_aload_n hx hb dX8_readSmith_73 rfl (lv_at hl 5 rfl) ?_
      refine lv_iconst (v := (nI 4)) hx hb dX8_readSmith_74 (by decide +kernel) ?_
      refine lv_iload hx hb dX8_readSmith_75 (lv_at hl 0 rfl) ?_
      refine lv_sipush (v := (nI 200)) hx hb dX8_readSmith_77 (by decide +kernel) ?_
      refine lv_iload hx hb dX8_readSmith_80 (lv_at hl 0 rfl) ?_
      refine lv_bipush (v := (nI 100)) hx hb dX8_readSmith_82 (by decide +kernel) ?_
      refine lv_icmp_le (tgt := 92) hx hb dX8_readSmith_84 (by decide) (fun c_54 => ?_) (fun c_54 => ?_)
      · skip
        refine lv_bipush (v := (nI 100)) hx hb dX8_readSmith_92 (by decide +kernel) ?_
        refine g_callV (wr := [(g4, .inl (T 0, 94, .inl ff))]) (nA := 4) hC V hl.1 (m_takesIf l D T o (nI 4) z_43 (nI 200) (nI 100) w0 g1 g2 g3 g4 tp a2_44 b2_45 sz k2_46 n2_47 u2_48 l2_49 w13 w14 g15 w16 g17 w18 w19 g20 w21 g22 g23 g24 w25 w26 w27 g28 g29 w30 g31 g32 g33 ft (by first | assumption | omega) (by first | assumption | omega)) w_1063 w_1065 w_s43 w_9 w_1066 (by decide +kernel) rfl ⟨(Nat.le_of_ble_eq_true rfl), (Nat.le_of_ble_eq_true rfl)⟩ 1 (ci := 8) rfl rfl [1, 2] [0] rfl rfl rfl rfl (by decide) (Nat.le_of_ble_eq_true rfl) dX8_readSmith_94 ⟨(Nat.le_of_ble_eq_true rfl), (Nat.le_of_ble_eq_true rfl)⟩ rfl (fun r w1 H locs hQ V => ?_)
        obtain ⟨z_55, a2_56, b2_57, k2_58, n2_59, u2_60, l2_61, rfl, rfl, f_62, f_63, f_64, f_65⟩ := hQ
        have V : gW D T A s [(g4, .inl (T 0, 94, .inl ff)), (o, .inr (8, [.int w0, .ref g1, .ref g2, .ref g3, .ref g4, .int (nI tp), .int (nI a2_56), .int (nI b2_57), .int (nI sz), .int k2_58, .int n2_59, .int u2_60, .int l2_61, .int w13, .int w14, .ref g15, .int w16, .ref g17, .int w18, .int w19, .ref g20, .int w21, .ref g22, .ref g23, .ref g24, .int w25, .int w26, .int w27, .ref g28, .ref g29, .int w30, .ref g31, .ref g32, .ref g33])), (g3, .inl (T 0, 900, .inl ft))] H locs := V
        show W p l e _ s m args below meth c H locs _ _ _ (F0 m 97 ls [.int z_55])
        refine lv_istore (lv' := [(6, .int z_55), (5, .int z_43), (4, .int z_32), (3, .int z_21), (2, .int z_10), (1, .int (nI n)), (0, .ref o)]) hx hb dX8_readSmith_97 hl (by decide) rfl (fun ls hl => ?_)
        refine lv_aload_n hx hb dX8_readSmith_99 rfl (lv_at hl 6 rfl) ?_
        refine lv_iconst (v := (nI 5)) hx hb dX8_readSmith_100 (by decide +kernel) ?_
        refine lv_iconst (v := (nI 0)) hx hb dX8_readSmith_101 (by decide +kernel) ?_
        refine lv_bipush (v := (nI 20)) hx hb dX8_readSmith_102 (by decide +kernel) ?_
        refine lv_iconst (v := (nI 3)) hx hb dX8_readSmith_104 (by decide +kernel) ?_
        refine g_callV (wr := [(g4, .inl (T 0, 94, .inl ff))]) (nA := 4) hC V hl.1 (m_takesIf l D T o (nI 5) (nI 0) (nI 20) (nI 3) w0 g1 g2 g3 g4 tp a2_56 b2_57 sz k2_58 n2_59 u2_60 l2_61 w13 w14 g15 w16 g17 w18 w19 g20 w21 g22 g23 g24 w25 w26 w27 g28 g29 w30 g31 g32 g33 ft (by first | assumption | omega) (by first | assumption | omega)) w_1063 w_1065 w_s43 w_9 w_1066 (by decide +kernel) rfl ⟨(Nat.le_of_ble_eq_true rfl), (Nat.le_of_ble_eq_true rfl)⟩ 1 (ci := 8) rfl rfl [1, 2] [0] rfl rfl rfl rfl (by decide) (Nat.le_of_ble_eq_true rfl) dX8_readSmith_105 ⟨(Nat.le_of_ble_eq_true rfl), (Nat.le_of_ble_eq_true rfl)⟩ rfl (fun r w1 H locs hQ V => ?_)
        obtain ⟨z_66, a2_67, b2_68, k2_69, n2_70, u2_71, l2_72, rfl, rfl, f_73, f_74, f_75, f_76⟩ := hQ
        have V : gW D T A s [(g4, .inl (T 0, 94, .inl ff)), (o, .inr (8, [.int w0, .ref g1, .ref g2, .ref g3, .ref g4, .int (nI tp), .int (nI a2_67), .int (nI b2_68), .int (nI sz), .int k2_69, .int n2_70, .int u2_71, .int l2_72, .int w13, .int w14, .ref g15, .int w16, .ref g17, .int w18, .int w19, .ref g20, .int w21, .ref g22, .ref g23, .ref g24, .int w25, .int w26, .int w27, .ref g28, .ref g29, .int w30, .ref g31, .ref g32, .ref g33])), (g3, .inl (T 0, 900, .inl ft))] H locs := V
        show W p l e _ s m args below meth c H locs _ _ _ (F0 m 108 ls [.int z_66])
        refine lv_istore (lv' := [(7, .int z_66), (6, .int z_55), (5, .int z_43), (4, .int z_32), (3, .int z_21), (2, .int z_10), (1, .int (nI n)), (0, .ref o)]) hx hb dX8_readSmith_108 hl (by decide) rfl (fun ls hl => ?_)
        refine lv_aload_n hx hb dX8_readSmith_110 rfl (lv_at hl 7 rfl) ?_
        refine g_get hC V (ci := 8) uwX8 1 rfl rfl 11 (by decide) w_923 rfl rfl dX8_readSmith_111 ?_
        refine lv_if_eq (tgt := 118) hx hb dX8_readSmith_114 (by decide) (fun c_77 => ?_) (fun c_77 => ?_)
        · skip
          have hu94 := f_73 c_77
          have hu68 := f_62 hu94
          have hu55 := f_50 hu68
          have hu44 := f_39 hu55
          have hu34 := f_28 hu44
          have hb4 := rg_bd (f_19 hu34) (by decide)
          have hb14 := rg_or (c := 5) (f_30 hu44) (by decide) (by decide)
          have hb24 := bd_le (rg_or (c := 0) (f_41 hu55) (by decide) (by decide)) (show 201 ≤ 256 by decide)
          have hb54 := rg_or (c := 3) (f_75 c_77) (by decide) (by decide)
          refine lv_aload_n hx hb dX8_readSmith_118 rfl (lv_at hl 7 rfl) ?_
          refine g_get hC V (ci := 8) uwX8 1 rfl rfl 4 (by decide) w_916 rfl rfl dX8_readSmith_119 ?_
          refine lv_iconst (v := (nI 4)) hx hb dX8_readSmith_122 (by decide +kernel) ?_
          refine lv_iload_n hx hb dX8_readSmith_123 rfl (lv_at hl 6 rfl) ?_
          refine lv_iadd hx hb dX8_readSmith_124 ?_
          refine g_vi (y := (nI (4 + n))) (nI_add _ _) ?_
          refine lv_iload_n hx hb dX8_readSmith_125 rfl (lv_at hl 5 rfl) ?_
          refine g_iast hC V 0 rfl (vp_in_nI (by omega) (by omega)) (f' := (upd ff (4 + n) z_10)) (by rw [nI_clamp (by omega)]) (ws' := [(g4, .inl (T 0, 94, .inl (upd ff (4 + n) z_10))), (o, .inr (8, [.int w0, .ref g1, .ref g2, .ref g3, .ref g4, .int (nI tp), .int (nI a2_67), .int (nI b2_68), .int (nI sz), .int k2_69, .int n2_70, .int u2_71, .int l2_72, .int w13, .int w14, .ref g15, .int w16, .ref g17, .int w18, .int w19, .ref g20, .int w21, .ref g22, .ref g23, .ref g24, .int w25, .int w26, .int w27, .ref g28, .ref g29, .int w30, .ref g31, .ref g32, .ref g33])), (g3, .inl (T 0, 900, .inl ft))]) rfl dX8_readSmith_126 (fun H locs V => ?_)
          refine lv_aload_n hx hb dX8_readSmith_127 rfl (lv_at hl 7 rfl) ?_
          refine g_get hC V (ci := 8) uwX8 1 rfl rfl 4 (by decide) w_916 rfl rfl dX8_readSmith_128 ?_
          refine lv_bipush (v := (nI 14)) hx hb dX8_readSmith_131 (by decide +kernel) ?_
          refine lv_iload_n hx hb dX8_readSmith_133 rfl (lv_at hl 6 rfl) ?_
          refine lv_iadd hx hb dX8_readSmith_134 ?_
          refine g_vi (y := (nI (14 + n))) (nI_add _ _) ?_
          refine lv_iload_n hx hb dX8_readSmith_135 rfl (lv_at hl 4 rfl) ?_
          refine g_iast hC V 0 rfl (vp_in_nI (by omega) (by omega)) (f' := (upd (upd ff (4 + n) z_10) (14 + n) z_21)) (by rw [nI_clamp (by omega)]) (ws' := [(g4, .inl (T 0, 94, .inl (upd (upd ff (4 + n) z_10) (14 + n) z_21))), (o, .inr (8, [.int w0, .ref g1, .ref g2, .ref g3, .ref g4, .int (nI tp), .int (nI a2_67), .int (nI b2_68), .int (nI sz), .int k2_69, .int n2_70, .int u2_71, .int l2_72, .int w13, .int w14, .ref g15, .int w16, .ref g17, .int w18, .int w19, .ref g20, .int w21, .ref g22, .ref g23, .ref g24, .int w25, .int w26, .int w27, .ref g28, .ref g29, .int w30, .ref g31, .ref g32, .ref g33])), (g3, .inl (T 0, 900, .inl ft))]) rfl dX8_readSmith_136 (fun H locs V => ?_)
          refine lv_aload_n hx hb dX8_readSmith_137 rfl (lv_at hl 7 rfl) ?_
          refine g_get hC V (ci := 8) uwX8 1 rfl rfl 4 (by decide) w_916 rfl rfl dX8_readSmith_138 ?_
          refine lv_bipush (v := (nI 24)) hx hb dX8_readSmith_141 (by decide +kernel) ?_
          refine lv_iload_n hx hb dX8_readSmith_143 rfl (lv_at hl 6 rfl) ?_
          refine lv_iadd hx hb dX8_readSmith_144 ?_
          refine g_vi (y := (nI (24 + n))) (nI_add _ _) ?_
          refine lv_iload hx hb dX8_readSmith_145 (lv_at hl 3 rfl) ?_
          refine g_iast hC V 0 rfl (vp_in_nI (by omega) (by omega)) (f' := (upd (upd (upd ff (4 + n) z_10) (14 + n) z_21) (24 + n) z_32)) (by rw [nI_clamp (by omega)]) (ws' := [(g4, .inl (T 0, 94, .inl (upd (upd (upd ff (4 + n) z_10) (14 + n) z_21) (24 + n) z_32))), (o, .inr (8, [.int w0, .ref g1, .ref g2, .ref g3, .ref g4, .int (nI tp), .int (nI a2_67), .int (nI b2_68), .int (nI sz), .int k2_69, .int n2_70, .int u2_71, .int l2_72, .int w13, .int w14, .ref g15, .int w16, .ref g17, .int w18, .int w19, .ref g20, .int w21, .ref g22, .ref g23, .ref g24, .int w25, .int w26, .int w27, .ref g28, .ref g29, .int w30, .ref g31, .ref g32, .ref g33])), (g3, .inl (T 0, 900, .inl ft))]) rfl dX8_readSmith_147 (fun H locs V => ?_)
          refine lv_aload_n hx hb dX8_readSmith_148 rfl (lv_at hl 7 rfl) ?_
          refine g_get hC V (ci := 8) uwX8 1 rfl rfl 4 (by decide) w_916 rfl rfl dX8_readSmith_149 ?_
          refine lv_bipush (v := (nI 34)) hx hb dX8_readSmith_152 (by decide +kernel) ?_
          refine lv_iload_n hx hb dX8_readSmith_154 rfl (lv_at hl 6 rfl) ?_
          refine lv_iadd hx hb dX8_readSmith_155 ?_
          refine g_vi (y := (nI (34 + n))) (nI_add _ _) ?_
          refine lv_iload hx hb dX8_readSmith_156 (lv_at hl 2 rfl) ?_
          refine g_iast hC V 0 rfl (vp_in_nI (by omega) (by omega)) (f' := (upd (upd (upd (upd ff (4 + n) z_10) (14 + n) z_21) (24 + n) z_32) (34 + n) z_43)) (by rw [nI_clamp (by omega)]) (ws' := [(g4, .inl (T 0, 94, .inl (upd (upd (upd (upd ff (4 + n) z_10) (14 + n) z_21) (24 + n) z_32) (34 + n) z_43))), (o, .inr (8, [.int w0, .ref g1, .ref g2, .ref g3, .ref g4, .int (nI tp), .int (nI a2_67), .int (nI b2_68), .int (nI sz), .int k2_69, .int n2_70, .int u2_71, .int l2_72, .int w13, .int w14, .ref g15, .int w16, .ref g17, .int w18, .int w19, .ref g20, .int w21, .ref g22, .ref g23, .ref g24, .int w25, .int w26, .int w27, .ref g28, .ref g29, .int w30, .ref g31, .ref g32, .ref g33])), (g3, .inl (T 0, 900, .inl ft))]) rfl dX8_readSmith_158 (fun H locs V => ?_)
          refine lv_aload_n hx hb dX8_readSmith_159 rfl (lv_at hl 7 rfl) ?_
          refine g_get hC V (ci := 8) uwX8 1 rfl rfl 4 (by decide) w_916 rfl rfl dX8_readSmith_160 ?_
          refine lv_bipush (v := (nI 44)) hx hb dX8_readSmith_163 (by decide +kernel) ?_
          refine lv_iload_n hx hb dX8_readSmith_165 rfl (lv_at hl 6 rfl) ?_
          refine lv_iadd hx hb dX8_readSmith_166 ?_
          refine g_vi (y := (nI (44 + n))) (nI_add _ _) ?_
          refine lv_iload hx hb dX8_readSmith_167 (lv_at hl 1 rfl) ?_
          refine g_iast hC V 0 rfl (vp_in_nI (by omega) (by omega)) (f' := (upd (upd (upd (upd (upd ff (4 + n) z_10) (14 + n) z_21) (24 + n) z_32) (34 + n) z_43) (44 + n) z_55)) (by rw [nI_clamp (by omega)]) (ws' := [(g4, .inl (T 0, 94, .inl (upd (upd (upd (upd (upd ff (4 + n) z_10) (14 + n) z_21) (24 + n) z_32) (34 + n) z_43) (44 + n) z_55))), (o, .inr (8, [.int w0, .ref g1, .ref g2, .ref g3, .ref g4, .int (nI tp), .int (nI a2_67), .int (nI b2_68), .int (nI sz), .int k2_69, .int n2_70, .int u2_71, .int l2_72, .int w13, .int w14, .ref g15, .int w16, .ref g17, .int w18, .int w19, .ref g20, .int w21, .ref g22, .ref g23, .ref g24, .int w25, .int w26, .int w27, .ref g28, .ref g29, .int w30, .ref g31, .ref g32, .ref g33])), (g3, .inl (T 0, 900, .inl ft))]) rfl dX8_readSmith_169 (fun H locs V => ?_)
          refine lv_aload_n hx hb dX8_readSmith_170 rfl (lv_at hl 7 rfl) ?_
          refine g_get hC V (ci := 8) uwX8 1 rfl rfl 4 (by decide) w_916 rfl rfl dX8_readSmith_171 ?_
          refine lv_bipush (v := (nI 54)) hx hb dX8_readSmith_174 (by decide +kernel) ?_
          refine lv_iload_n hx hb dX8_readSmith_176 rfl (lv_at hl 6 rfl) ?_
          refine lv_iadd hx hb dX8_readSmith_177 ?_
          refine g_vi (y := (nI (54 + n))) (nI_add _ _) ?_
          refine lv_iload hx hb dX8_readSmith_178 (lv_at hl 0 rfl) ?_
          refine g_iast hC V 0 rfl (vp_in_nI (by omega) (by omega)) (f' := (upd (upd (upd (upd (upd (upd ff (4 + n) z_10) (14 + n) z_21) (24 + n) z_32) (34 + n) z_43) (44 + n) z_55) (54 + n) z_66)) (by rw [nI_clamp (by omega)]) (ws' := [(g4, .inl (T 0, 94, .inl (upd (upd (upd (upd (upd (upd ff (4 + n) z_10) (14 + n) z_21) (24 + n) z_32) (34 + n) z_43) (44 + n) z_55) (54 + n) z_66))), (o, .inr (8, [.int w0, .ref g1, .ref g2, .ref g3, .ref g4, .int (nI tp), .int (nI a2_67), .int (nI b2_68), .int (nI sz), .int k2_69, .int n2_70, .int u2_71, .int l2_72, .int w13, .int w14, .ref g15, .int w16, .ref g17, .int w18, .int w19, .ref g20, .int w21, .ref g22, .ref g23, .ref g24, .int w25, .int w26, .int w27, .ref g28, .ref g29, .int w30, .ref g31, .ref g32, .ref g33])), (g3, .inl (T 0, 900, .inl ft))]) rfl dX8_readSmith_180 (fun H locs V => ?_)
          refine lv_aload_n hx hb dX8_readSmith_181 rfl (lv_at hl 7 rfl) ?_
          refine g_get hC V (ci := 8) uwX8 1 rfl rfl 4 (by decide) w_916 rfl rfl dX8_readSmith_182 ?_
          refine lv_iconst (v := (nI 0)) hx hb dX8_readSmith_185 (by decide +kernel) ?_
          refine lv_dup2_11 hx hb dX8_readSmith_186 rfl rfl ?_
          refine g_iald hC V 0 rfl (vp_in_nI (by decide) (by decide)) (v := (nI n)) (by rw [nI_clamp (by decide), up_other (by omega), up_other (by omega), up_other (by omega), up_other (by omega), up_other (by omega), up_other (by omega)]; exact h_fr.2.1) dX8_readSmith_187 ?_
          refine lv_iconst (v := (nI 1)) hx hb dX8_readSmith_188 (by decide +kernel) ?_
          refine lv_iadd hx hb dX8_readSmith_189 ?_
          refine g_vi (y := (nI (n + 1))) (nI_add _ _) ?_
          refine g_iast hC V 0 rfl (vp_in_nI (by decide) (by decide)) (f' := (upd (upd (upd (upd (upd (upd (upd ff (4 + n) z_10) (14 + n) z_21) (24 + n) z_32) (34 + n) z_43) (44 + n) z_55) (54 + n) z_66) 0 (nI (n + 1)))) (by rw [nI_clamp (by decide)]) (ws' := [(g4, .inl (T 0, 94, .inl (upd (upd (upd (upd (upd (upd (upd ff (4 + n) z_10) (14 + n) z_21) (24 + n) z_32) (34 + n) z_43) (44 + n) z_55) (54 + n) z_66) 0 (nI (n + 1))))), (o, .inr (8, [.int w0, .ref g1, .ref g2, .ref g3, .ref g4, .int (nI tp), .int (nI a2_67), .int (nI b2_68), .int (nI sz), .int k2_69, .int n2_70, .int u2_71, .int l2_72, .int w13, .int w14, .ref g15, .int w16, .ref g17, .int w18, .int w19, .ref g20, .int w21, .ref g22, .ref g23, .ref g24, .int w25, .int w26, .int w27, .ref g28, .ref g29, .int w30, .ref g31, .ref g32, .ref g33])), (g3, .inl (T 0, 900, .inl ft))]) rfl dX8_readSmith_190 (fun H locs V => ?_)
          have V := V.sub (ws' := [(o, .inr (8, [.int w0, .ref g1, .ref g2, .ref g3, .ref g4, .int (nI tp), .int (nI a2_67), .int (nI b2_68), .int (nI sz), .int k2_69, .int n2_70, .int u2_71, .int l2_72, .int w13, .int w14, .ref g15, .int w16, .ref g17, .int w18, .int w19, .ref g20, .int w21, .ref g22, .ref g23, .ref g24, .int w25, .int w26, .int w27, .ref g28, .ref g29, .int w30, .ref g31, .ref g32, .ref g33])), (g3, .inl (T 0, 900, .inl ft)), (g4, .inl (T 0, 94, .inl (upd (upd (upd (upd (upd (upd (upd ff (4 + n) z_10) (14 + n) z_21) (24 + n) z_32) (34 + n) z_43) (44 + n) z_55) (54 + n) z_66) 0 (nI (n + 1)))))]) [1, 2, 0] rfl rfl
          exact g_vret (Qr := (q_m_readSmith T n o w0 g1 g2 g3 g4 tp at_ be sz w9 w10 w11 w12 w13 w14 g15 w16 g17 w18 w19 g20 w21 g22 g23 g24 w25 w26 w27 g28 g29 w30 g31 g32 g33 ft ff)) hC V ⟨(Nat.le_of_ble_eq_true rfl), (Nat.le_of_ble_eq_true rfl)⟩ ⟨a2_67, b2_68, k2_69, n2_70, u2_71, l2_72, (n + 1), (upd (upd (upd (upd (upd (upd (upd ff (4 + n) z_10) (14 + n) z_21) (24 + n) z_32) (34 + n) z_43) (44 + n) z_55) (54 + n) z_66) 0 (nI (n + 1))), rfl, rfl, (fr_smith h_fr (by omega) hb4 hb14 hb24 hb54), (by omega), (by omega), (fun _ => by assumption)⟩ dX8_readSmith_191
        · skip
          have V := V.sub (ws' := [(o, .inr (8, [.int w0, .ref g1, .ref g2, .ref g3, .ref g4, .int (nI tp), .int (nI a2_67), .int (nI b2_68), .int (nI sz), .int k2_69, .int n2_70, .int u2_71, .int l2_72, .int w13, .int w14, .ref g15, .int w16, .ref g17, .int w18, .int w19, .ref g20, .int w21, .ref g22, .ref g23, .ref g24, .int w25, .int w26, .int w27, .ref g28, .ref g29, .int w30, .ref g31, .ref g32, .ref g33])), (g3, .inl (T 0, 900, .inl ft)), (g4, .inl (T 0, 94, .inl ff))]) [1, 2, 0] rfl rfl
          exact g_vret (Qr := (q_m_readSmith T n o w0 g1 g2 g3 g4 tp at_ be sz w9 w10 w11 w12 w13 w14 g15 w16 g17 w18 w19 g20 w21 g22 g23 g24 w25 w26 w27 g28 g29 w30 g31 g32 g33 ft ff)) hC V ⟨(Nat.le_of_ble_eq_true rfl), (Nat.le_of_ble_eq_true rfl)⟩ ⟨a2_67, b2_68, k2_69, n2_70, u2_71, l2_72, n, ff, rfl, rfl, h_fr, (by omega), (by omega), (fun h => absurd h (by assumption))⟩ dX8_readSmith_117
      · skip
        refine lv_iload hx hb dX8_readSmith_87 (lv_at hl 0 rfl) ?_
        refine lv_goto (tgt := 94) hx hb dX8_readSmith_89 (by decide) ?_
        refine g_callV (wr := [(g4, .inl (T 0, 94, .inl ff))]) (nA := 4) hC V hl.1 (m_takesIf l D T o (nI 4) z_43 (nI 200) z_43 w0 g1 g2 g3 g4 tp a2_44 b2_45 sz k2_46 n2_47 u2_48 l2_49 w13 w14 g15 w16 g17 w18 w19 g20 w21 g22 g23 g24 w25 w26 w27 g28 g29 w30 g31 g32 g33 ft (by first | assumption | omega) (by first | assumption | omega)) w_1063 w_1065 w_s43 w_9 w_1066 (by decide +kernel) rfl ⟨(Nat.le_of_ble_eq_true rfl), (Nat.le_of_ble_eq_true rfl)⟩ 1 (ci := 8) rfl rfl [1, 2] [0] rfl rfl rfl rfl (by decide) (Nat.le_of_ble_eq_true rfl) dX8_readSmith_94 ⟨(Nat.le_of_ble_eq_true rfl), (Nat.le_of_ble_eq_true rfl)⟩ rfl (fun r w1 H locs hQ V => ?_)
        obtain ⟨z_78, a2_79, b2_80, k2_81, n2_82, u2_83, l2_84, rfl, rfl, f_85, f_86, f_87, f_88⟩ := hQ
        have V : gW D T A s [(g4, .inl (T 0, 94, .inl ff)), (o, .inr (8, [.int w0, .ref g1, .ref g2, .ref g3, .ref g4, .int (nI tp), .int (nI a2_79), .int (nI b2_80), .int (nI sz), .int k2_81, .int n2_82, .int u2_83, .int l2_84, .int w13, .int w14, .ref g15, .int w16, .ref g17, .int w18, .int w19, .ref g20, .int w21, .ref g22, .ref g23, .ref g24, .int w25, .int w26, .int w27, .ref g28, .ref g29, .int w30, .ref g31, .ref g32, .ref g33])), (g3, .inl (T 0, 900, .inl ft))] H locs := V
        show W p l e _ s m args below meth c H locs _ _ _ (F0 m 97 ls [.int z_78])
        refine lv_istore (lv' := [(6, .int z_78), (5, .int z_43), (4, .int z_32), (3, .int z_21), (2, .int z_10), (1, .int (nI n)), (0, .ref o)]) hx hb dX8_readSmith_97 hl (by decide) rfl (fun ls hl => ?_)
        refine lv_aload_n hx hb dX8_readSmith_99 rfl (lv_at hl 6 rfl) ?_
        refine lv_iconst (v := (nI 5)) hx hb dX8_readSmith_100 (by decide +kernel) ?_
        refine lv_iconst (v := (nI 0)) hx hb dX8_readSmith_101 (by decide +kernel) ?_
        refine lv_bipush (v := (nI 20)) hx hb dX8_readSmith_102 (by decide +kernel) ?_
        refine lv_iconst (v := (nI 3)) hx hb dX8_readSmith_104 (by decide +kernel) ?_
        refine g_callV (wr := [(g4, .inl (T 0, 94, .inl ff))]) (nA := 4) hC V hl.1 (m_takesIf l D T o (nI 5) (nI 0) (nI 20) (nI 3) w0 g1 g2 g3 g4 tp a2_79 b2_80 sz k2_81 n2_82 u2_83 l2_84 w13 w14 g15 w16 g17 w18 w19 g20 w21 g22 g23 g24 w25 w26 w27 g28 g29 w30 g31 g32 g33 ft (by first | assumption | omega) (by first | assumption | omega)) w_1063 w_1065 w_s43 w_9 w_1066 (by decide +kernel) rfl ⟨(Nat.le_of_ble_eq_true rfl), (Nat.le_of_ble_eq_true rfl)⟩ 1 (ci := 8) rfl rfl [1, 2] [0] rfl rfl rfl rfl (by decide) (Nat.le_of_ble_eq_true rfl) dX8_readSmith_105 ⟨(Nat.le_of_ble_eq_true rfl), (Nat.le_of_ble_eq_true rfl)⟩ rfl (fun r w1 H locs hQ V => ?_)
        obtain ⟨z_89, a2_90, b2_91, k2_92, n2_93, u2_94, l2_95, rfl, rfl, f_96, f_97, f_98, f_99⟩ := hQ
        have V : gW D T A s [(g4, .inl (T 0, 94, .inl ff)), (o, .inr (8, [.int w0, .ref g1, .ref g2, .ref g3, .ref g4, .int (nI tp), .int (nI a2_90), .int (nI b2_91), .int (nI sz), .int k2_92, .int n2_93, .int u2_94, .int l2_95, .int w13, .int w14, .ref g15, .int w16, .ref g17, .int w18, .int w19, .ref g20, .int w21, .ref g22, .ref g23, .ref g24, .int w25, .int w26, .int w27, .ref g28, .ref g29, .int w30, .ref g31, .ref g32, .ref g33])), (g3, .inl (T 0, 900, .inl ft))] H locs := V
        show W p l e _ s m args below meth c H locs _ _ _ (F0 m 108 ls [.int z_89])
        refine lv_istore (lv' := [(7, .int z_89), (6, .int z_78), (5, .int z_43), (4, .int z_32), (3, .int z_21), (2, .int z_10), (1, .int (nI n)), (0, .ref o)]) hx hb dX8_readSmith_108 hl (by decide) rfl (fun ls hl => ?_)
        refine lv_aload_n hx hb dX8_readSmith_110 rfl (lv_at hl 7 rfl) ?_
        refine g_get hC V (ci := 8) uwX8 1 rfl rfl 11 (by decide) w_923 rfl rfl dX8_readSmith_111 ?_
        refine lv_if_eq (tgt := 118) hx hb dX8_readSmith_114 (by decide) (fun c_100 => ?_) (fun c_100 => ?_)
        · skip
          have hu94 := f_96 c_100
          have hu68 := f_85 hu94
          have hu55 := f_50 hu68
          have hu44 := f_39 hu55
          have hu34 := f_28 hu44
          have hb4 := rg_bd (f_19 hu34) (by decide)
          have hb14 := rg_or (c := 5) (f_30 hu44) (by decide) (by decide)
          have hb24 := bd_le (rg_or (c := 0) (f_41 hu55) (by decide) (by decide)) (show 201 ≤ 256 by decide)
          have hb54 := rg_or (c := 3) (f_98 c_100) (by decide) (by decide)
          refine lv_aload_n hx hb dX8_readSmith_118 rfl (lv_at hl 7 rfl) ?_
          refine g_get hC V (ci := 8) uwX8 1 rfl rfl 4 (by decide) w_916 rfl rfl dX8_readSmith_119 ?_
          refine lv_iconst (v := (nI 4)) hx hb dX8_readSmith_122 (by decide +kernel) ?_
          refine lv_iload_n hx hb dX8_readSmith_123 rfl (lv_at hl 6 rfl) ?_
          refine lv_iadd hx hb dX8_readSmith_124 ?_
          refine g_vi (y := (nI (4 + n))) (nI_add _ _) ?_
          refine lv_iload_n hx hb dX8_readSmith_125 rfl (lv_at hl 5 rfl) ?_
          refine g_iast hC V 0 rfl (vp_in_nI (by omega) (by omega)) (f' := (upd ff (4 + n) z_10)) (by rw [nI_clamp (by omega)]) (ws' := [(g4, .inl (T 0, 94, .inl (upd ff (4 + n) z_10))), (o, .inr (8, [.int w0, .ref g1, .ref g2, .ref g3, .ref g4, .int (nI tp), .int (nI a2_90), .int (nI b2_91), .int (nI sz), .int k2_92, .int n2_93, .int u2_94, .int l2_95, .int w13, .int w14, .ref g15, .int w16, .ref g17, .int w18, .int w19, .ref g20, .int w21, .ref g22, .ref g23, .ref g24, .int w25, .int w26, .int w27, .ref g28, .ref g29, .int w30, .ref g31, .ref g32, .ref g33])), (g3, .inl (T 0, 900, .inl ft))]) rfl dX8_readSmith_126 (fun H locs V => ?_)
          refine lv_aload_n hx hb dX8_readSmith_127 rfl (lv_at hl 7 rfl) ?_
          refine g_get hC V (ci := 8) uwX8 1 rfl rfl 4 (by decide) w_916 rfl rfl dX8_readSmith_128 ?_
          refine lv_bipush (v := (nI 14)) hx hb dX8_readSmith_131 (by decide +kernel) ?_
          refine lv_iload_n hx hb dX8_readSmith_133 rfl (lv_at hl 6 rfl) ?_
          refine lv_iadd hx hb dX8_readSmith_134 ?_
          refine g_vi (y := (nI (14 + n))) (nI_add _ _) ?_
          refine lv_iload_n hx hb dX8_readSmith_135 rfl (lv_at hl 4 rfl) ?_
          refine g_iast hC V 0 rfl (vp_in_nI (by omega) (by omega)) (f' := (upd (upd ff (4 + n) z_10) (14 + n) z_21)) (by rw [nI_clamp (by omega)]) (ws' := [(g4, .inl (T 0, 94, .inl (upd (upd ff (4 + n) z_10) (14 + n) z_21))), (o, .inr (8, [.int w0, .ref g1, .ref g2, .ref g3, .ref g4, .int (nI tp), .int (nI a2_90), .int (nI b2_91), .int (nI sz), .int k2_92, .int n2_93, .int u2_94, .int l2_95, .int w13, .int w14, .ref g15, .int w16, .ref g17, .int w18, .int w19, .ref g20, .int w21, .ref g22, .ref g23, .ref g24, .int w25, .int w26, .int w27, .ref g28, .ref g29, .int w30, .ref g31, .ref g32, .ref g33])), (g3, .inl (T 0, 900, .inl ft))]) rfl dX8_readSmith_136 (fun H locs V => ?_)
          refine lv_aload_n hx hb dX8_readSmith_137 rfl (lv_at hl 7 rfl) ?_
          refine g_get hC V (ci := 8) uwX8 1 rfl rfl 4 (by decide) w_916 rfl rfl dX8_readSmith_138 ?_
          refine lv_bipush (v := (nI 24)) hx hb dX8_readSmith_141 (by decide +kernel) ?_
          refine lv_iload_n hx hb dX8_readSmith_143 rfl (lv_at hl 6 rfl) ?_
          refine lv_iadd hx hb dX8_readSmith_144 ?_
          refine g_vi (y := (nI (24 + n))) (nI_add _ _) ?_
          refine lv_iload hx hb dX8_readSmith_145 (lv_at hl 3 rfl) ?_
          refine g_iast hC V 0 rfl (vp_in_nI (by omega) (by omega)) (f' := (upd (upd (upd ff (4 + n) z_10) (14 + n) z_21) (24 + n) z_32)) (by rw [nI_clamp (by omega)]) (ws' := [(g4, .inl (T 0, 94, .inl (upd (upd (upd ff (4 + n) z_10) (14 + n) z_21) (24 + n) z_32))), (o, .inr (8, [.int w0, .ref g1, .ref g2, .ref g3, .ref g4, .int (nI tp), .int (nI a2_90), .int (nI b2_91), .int (nI sz), .int k2_92, .int n2_93, .int u2_94, .int l2_95, .int w13, .int w14, .ref g15, .int w16, .ref g17, .int w18, .int w19, .ref g20, .int w21, .ref g22, .ref g23, .ref g24, .int w25, .int w26, .int w27, .ref g28, .ref g29, .int w30, .ref g31, .ref g32, .ref g33])), (g3, .inl (T 0, 900, .inl ft))]) rfl dX8_readSmith_147 (fun H locs V => ?_)
          refine lv_aload_n hx hb dX8_readSmith_148 rfl (lv_at hl 7 rfl) ?_
          refine g_get hC V (ci := 8) uwX8 1 rfl rfl 4 (by decide) w_916 rfl rfl dX8_readSmith_149 ?_
          refine lv_bipush (v := (nI 34)) hx hb dX8_readSmith_152 (by decide +kernel) ?_
          refine lv_iload_n hx hb dX8_readSmith_154 rfl (lv_at hl 6 rfl) ?_
          refine lv_iadd hx hb dX8_readSmith_155 ?_
          refine g_vi (y := (nI (34 + n))) (nI_add _ _) ?_
          refine lv_iload hx hb dX8_readSmith_156 (lv_at hl 2 rfl) ?_
          refine g_iast hC V 0 rfl (vp_in_nI (by omega) (by omega)) (f' := (upd (upd (upd (upd ff (4 + n) z_10) (14 + n) z_21) (24 + n) z_32) (34 + n) z_43)) (by rw [nI_clamp (by omega)]) (ws' := [(g4, .inl (T 0, 94, .inl (upd (upd (upd (upd ff (4 + n) z_10) (14 + n) z_21) (24 + n) z_32) (34 + n) z_43))), (o, .inr (8, [.int w0, .ref g1, .ref g2, .ref g3, .ref g4, .int (nI tp), .int (nI a2_90), .int (nI b2_91), .int (nI sz), .int k2_92, .int n2_93, .int u2_94, .int l2_95, .int w13, .int w14, .ref g15, .int w16, .ref g17, .int w18, .int w19, .ref g20, .int w21, .ref g22, .ref g23, .ref g24, .int w25, .int w26, .int w27, .ref g28, .ref g29, .int w30, .ref g31, .ref g32, .ref g33])), (g3, .inl (T 0, 900, .inl ft))]) rfl dX8_readSmith_158 (fun H locs V => ?_)
          refine lv_aload_n hx hb dX8_readSmith_159 rfl (lv_at hl 7 rfl) ?_
          refine g_get hC V (ci := 8) uwX8 1 rfl rfl 4 (by decide) w_916 rfl rfl dX8_readSmith_160 ?_
          refine lv_bipush (v := (nI 44)) hx hb dX8_readSmith_163 (by decide +kernel) ?_
          refine lv_iload_n hx hb dX8_readSmith_165 rfl (lv_at hl 6 rfl) ?_
          refine lv_iadd hx hb dX8_readSmith_166 ?_
          refine g_vi (y := (nI (44 + n))) (nI_add _ _) ?_
          refine lv_iload hx hb dX8_readSmith_167 (lv_at hl 1 rfl) ?_
          refine g_iast hC V 0 rfl (vp_in_nI (by omega) (by omega)) (f' := (upd (upd (upd (upd (upd ff (4 + n) z_10) (14 + n) z_21) (24 + n) z_32) (34 + n) z_43) (44 + n) z_78)) (by rw [nI_clamp (by omega)]) (ws' := [(g4, .inl (T 0, 94, .inl (upd (upd (upd (upd (upd ff (4 + n) z_10) (14 + n) z_21) (24 + n) z_32) (34 + n) z_43) (44 + n) z_78))), (o, .inr (8, [.int w0, .ref g1, .ref g2, .ref g3, .ref g4, .int (nI tp), .int (nI a2_90), .int (nI b2_91), .int (nI sz), .int k2_92, .int n2_93, .int u2_94, .int l2_95, .int w13, .int w14, .ref g15, .int w16, .ref g17, .int w18, .int w19, .ref g20, .int w21, .ref g22, .ref g23, .ref g24, .int w25, .int w26, .int w27, .ref g28, .ref g29, .int w30, .ref g31, .ref g32, .ref g33])), (g3, .inl (T 0, 900, .inl ft))]) rfl dX8_readSmith_169 (fun H locs V => ?_)
          refine lv_aload_n hx hb dX8_readSmith_170 rfl (lv_at hl 7 rfl) ?_
          refine g_get hC V (ci := 8) uwX8 1 rfl rfl 4 (by decide) w_916 rfl rfl dX8_readSmith_171 ?_
          refine lv_bipush (v := (nI 54)) hx hb dX8_readSmith_174 (by decide +kernel) ?_
          refine lv_iload_n hx hb dX8_readSmith_176 rfl (lv_at hl 6 rfl) ?_
          refine lv_iadd hx hb dX8_readSmith_177 ?_
          refine g_vi (y := (nI (54 + n))) (nI_add _ _) ?_
          refine lv_iload hx hb dX8_readSmith_178 (lv_at hl 0 rfl) ?_
          refine g_iast hC V 0 rfl (vp_in_nI (by omega) (by omega)) (f' := (upd (upd (upd (upd (upd (upd ff (4 + n) z_10) (14 + n) z_21) (24 + n) z_32) (34 + n) z_43) (44 + n) z_78) (54 + n) z_89)) (by rw [nI_clamp (by omega)]) (ws' := [(g4, .inl (T 0, 94, .inl (upd (upd (upd (upd (upd (upd ff (4 + n) z_10) (14 + n) z_21) (24 + n) z_32) (34 + n) z_43) (44 + n) z_78) (54 + n) z_89))), (o, .inr (8, [.int w0, .ref g1, .ref g2, .ref g3, .ref g4, .int (nI tp), .int (nI a2_90), .int (nI b2_91), .int (nI sz), .int k2_92, .int n2_93, .int u2_94, .int l2_95, .int w13, .int w14, .ref g15, .int w16, .ref g17, .int w18, .int w19, .ref g20, .int w21, .ref g22, .ref g23, .ref g24, .int w25, .int w26, .int w27, .ref g28, .ref g29, .int w30, .ref g31, .ref g32, .ref g33])), (g3, .inl (T 0, 900, .inl ft))]) rfl dX8_readSmith_180 (fun H locs V => ?_)
          refine lv_aload_n hx hb dX8_readSmith_181 rfl (lv_at hl 7 rfl) ?_
          refine g_get hC V (ci := 8) uwX8 1 rfl rfl 4 (by decide) w_916 rfl rfl dX8_readSmith_182 ?_
          refine lv_iconst (v := (nI 0)) hx hb dX8_readSmith_185 (by decide +kernel) ?_
          refine lv_dup2_11 hx hb dX8_readSmith_186 rfl rfl ?_
          refine g_iald hC V 0 rfl (vp_in_nI (by decide) (by decide)) (v := (nI n)) (by rw [nI_clamp (by decide), up_other (by omega), up_other (by omega), up_other (by omega), up_other (by omega), up_other (by omega), up_other (by omega)]; exact h_fr.2.1) dX8_readSmith_187 ?_
          refine lv_iconst (v := (nI 1)) hx hb dX8_readSmith_188 (by decide +kernel) ?_
          refine lv_iadd hx hb dX8_readSmith_189 ?_
          refine g_vi (y := (nI (n + 1))) (nI_add _ _) ?_
          refine g_iast hC V 0 rfl (vp_in_nI (by decide) (by decide)) (f' := (upd (upd (upd (upd (upd (upd (upd ff (4 + n) z_10) (14 + n) z_21) (24 + n) z_32) (34 + n) z_43) (44 + n) z_78) (54 + n) z_89) 0 (nI (n + 1)))) (by rw [nI_clamp (by decide)]) (ws' := [(g4, .inl (T 0, 94, .inl (upd (upd (upd (upd (upd (upd (upd ff (4 + n) z_10) (14 + n) z_21) (24 + n) z_32) (34 + n) z_43) (44 + n) z_78) (54 + n) z_89) 0 (nI (n + 1))))), (o, .inr (8, [.int w0, .ref g1, .ref g2, .ref g3, .ref g4, .int (nI tp), .int (nI a2_90), .int (nI b2_91), .int (nI sz), .int k2_92, .int n2_93, .int u2_94, .int l2_95, .int w13, .int w14, .ref g15, .int w16, .ref g17, .int w18, .int w19, .ref g20, .int w21, .ref g22, .ref g23, .ref g24, .int w25, .int w26, .int w27, .ref g28, .ref g29, .int w30, .ref g31, .ref g32, .ref g33])), (g3, .inl (T 0, 900, .inl ft))]) rfl dX8_readSmith_190 (fun H locs V => ?_)
          have V := V.sub (ws' := [(o, .inr (8, [.int w0, .ref g1, .ref g2, .ref g3, .ref g4, .int (nI tp), .int (nI a2_90), .int (nI b2_91), .int (nI sz), .int k2_92, .int n2_93, .int u2_94, .int l2_95, .int w13, .int w14, .ref g15, .int w16, .ref g17, .int w18, .int w19, .ref g20, .int w21, .ref g22, .ref g23, .ref g24, .int w25, .int w26, .int w27, .ref g28, .ref g29, .int w30, .ref g31, .ref g32, .ref g33])), (g3, .inl (T 0, 900, .inl ft)), (g4, .inl (T 0, 94, .inl (upd (upd (upd (upd (upd (upd (upd ff (4 + n) z_10) (14 + n) z_21) (24 + n) z_32) (34 + n) z_43) (44 + n) z_78) (54 + n) z_89) 0 (nI (n + 1)))))]) [1, 2, 0] rfl rfl
          exact g_vret (Qr := (q_m_readSmith T n o w0 g1 g2 g3 g4 tp at_ be sz w9 w10 w11 w12 w13 w14 g15 w16 g17 w18 w19 g20 w21 g22 g23 g24 w25 w26 w27 g28 g29 w30 g31 g32 g33 ft ff)) hC V ⟨(Nat.le_of_ble_eq_true rfl), (Nat.le_of_ble_eq_true rfl)⟩ ⟨a2_90, b2_91, k2_92, n2_93, u2_94, l2_95, (n + 1), (upd (upd (upd (upd (upd (upd (upd ff (4 + n) z_10) (14 + n) z_21) (24 + n) z_32) (34 + n) z_43) (44 + n) z_78) (54 + n) z_89) 0 (nI (n + 1))), rfl, rfl, (fr_smith h_fr (by omega) hb4 hb14 hb24 hb54), (by omega), (by omega), (fun _ => by assumption)⟩ dX8_readSmith_191
        · skip
          have V := V.sub (ws' := [(o, .inr (8, [.int w0, .ref g1, .ref g2, .ref g3, .ref g4, .int (nI tp), .int (nI a2_90), .int (nI b2_91), .int (nI sz), .int k2_92, .int n2_93, .int u2_94, .int l2_95, .int w13, .int w14, .ref g15, .int w16, .ref g17, .int w18, .int w19, .ref g20, .int w21, .ref g22, .ref g23, .ref g24, .int w25, .int w26, .int w27, .ref g28, .ref g29, .int w30, .ref g31, .ref g32, .ref g33])), (g3, .inl (T 0, 900, .inl ft)), (g4, .inl (T 0, 94, .inl ff))]) [1, 2, 0] rfl rfl
          exact g_vret (Qr := (q_m_readSmith T n o w0 g1 g2 g3 g4 tp at_ be sz w9 w10 w11 w12 w13 w14 g15 w16 g17 w18 w19 g20 w21 g22 g23 g24 w25 w26 w27 g28 g29 w30 g31 g32 g33 ft ff)) hC V ⟨(Nat.le_of_ble_eq_true rfl), (Nat.le_of_ble_eq_true rfl)⟩ ⟨a2_90, b2_91, k2_92, n2_93, u2_94, l2_95, n, ff, rfl, rfl, h_fr, (by omega), (by omega), (fun h => absurd h (by assumption))⟩ dX8_readSmith_117
    · skip
      exact g_vret (Qr := (q_m_readSmith T n o w0 g1 g2 g3 g4 tp at_ be sz w9 w10 w11 w12 w13 w14 g15 w16 g17 w18 w19 g20 w21 g22 g23 g24 w25 w26 w27 g28 g29 w30 g31 g32 g33 ft ff)) hC V ⟨(Nat.le_of_ble_eq_true rfl), (Nat.le_of_ble_eq_true rfl)⟩ ⟨at_, be, w9, w10, w11, w12, n, ff, rfl, rfl, h_fr, (by omega), (by omega), (fun h => absurd h (by assumption))⟩ dX8_readSmith_25
  · skip
    have c_1 := b_eq (by omega) (by omega) c_1
    refine lv_aload_n hx hb dX8_readSmith_13 rfl (lv_at hl 1 rfl) ?_
    refine lv_iconst (v := (nI 4)) hx hb dX8_readSmith_14 (by decide +kernel) ?_
    refine g_callV (wr := [(g3, .inl (T 0, 900, .inl ft)), (g4, .inl (T 0, 94, .inl ff))]) (nA := 1) hC V hl.1 (m_fails l D T o (nI 4) w0 g1 g2 g3 g4 tp at_ be (nI sz) w9 w10 w11 w12 w13 w14 g15 w16 g17 w18 w19 g20 w21 g22 g23 g24 w25 w26 w27 g28 g29 w30 g31 g32 g33 (by decide +kernel)) w_1055 w_1057 w_s41 w_9 w_1058 (by decide +kernel) rfl ⟨(Nat.le_of_ble_eq_true rfl), (Nat.le_of_ble_eq_true rfl)⟩ 0 (ci := 8) rfl rfl [0] [1, 2] rfl rfl rfl rfl (by decide) (Nat.le_of_ble_eq_true rfl) dX8_readSmith_15 ⟨(Nat.le_of_ble_eq_true rfl), (Nat.le_of_ble_eq_true rfl)⟩ rfl (fun r w1 H locs hQ V => ?_)
    obtain ⟨u2_101, l2_102, rfl, rfl, f_103⟩ := hQ
    have V : gW D T A s [(g3, .inl (T 0, 900, .inl ft)), (g4, .inl (T 0, 94, .inl ff)), (o, .inr (8, [.int w0, .ref g1, .ref g2, .ref g3, .ref g4, .int (nI tp), .int (nI at_), .int (nI be), .int (nI sz), .int w9, .int w10, .int u2_101, .int l2_102, .int w13, .int w14, .ref g15, .int w16, .ref g17, .int w18, .int w19, .ref g20, .int w21, .ref g22, .ref g23, .ref g24, .int w25, .int w26, .int w27, .ref g28, .ref g29, .int w30, .ref g31, .ref g32, .ref g33]))] H locs := V
    show W p l e _ s m args below meth c H locs _ _ _ (F0 m 18 ls [])
    refine lv_aload_n hx hb dX8_readSmith_18 rfl (lv_at hl 1 rfl) ?_
    refine g_get hC V (ci := 8) uwX8 2 rfl rfl 11 (by decide) w_923 rfl rfl dX8_readSmith_19 ?_
    refine lv_if_eq (tgt := 26) hx hb dX8_readSmith_22 (by decide) (fun c_104 => ?_) (fun c_104 => ?_)
    · skip
      exact absurd c_104 (by assumption)
    · skip
      have V := V.sub (ws' := [(o, .inr (8, [.int w0, .ref g1, .ref g2, .ref g3, .ref g4, .int (nI tp), .int (nI at_), .int (nI be), .int (nI sz), .int w9, .int w10, .int u2_101, .int l2_102, .int w13, .int w14, .ref g15, .int w16, .ref g17, .int w18, .int w19, .ref g20, .int w21, .ref g22, .ref g23, .ref g24, .int w25, .int w26, .int w27, .ref g28, .ref g29, .int w30, .ref g31, .ref g32, .ref g33])), (g3, .inl (T 0, 900, .inl ft)), (g4, .inl (T 0, 94, .inl ff))]) [2, 0, 1] rfl rfl
      exact g_vret (Qr := (q_m_readSmith T n o w0 g1 g2 g3 g4 tp at_ be sz w9 w10 w11 w12 w13 w14 g15 w16 g17 w18 w19 g20 w21 g22 g23 g24 w25 w26 w27 g28 g29 w30 g31 g32 g33 ft ff)) hC V ⟨(Nat.le_of_ble_eq_true rfl), (Nat.le_of_ble_eq_true rfl)⟩ ⟨at_, be, w9, w10, u2_101, l2_102, n, ff, rfl, rfl, h_fr, (by omega), (by omega), (fun h => absurd h (by assumption))⟩ dX8_readSmith_25

def q_m_readBlows (T : Nat → ClassId) (n : Nat) (o : Nat) (w0 : Int32) (g1 : Nat) (g2 : Nat) (g3 : Nat) (g4 : Nat) (tp : Nat) (at_ : Nat) (be : Nat) (sz : Nat) (w9 : Int32) (w10 : Int32) (w11 : Int32) (w12 : Int32) (w13 : Int32) (w14 : Int32) (g15 : Nat) (w16 : Int32) (g17 : Nat) (w18 : Int32) (w19 : Int32) (g20 : Nat) (w21 : Int32) (g22 : Nat) (g23 : Nat) (g24 : Nat) (w25 : Int32) (w26 : Int32) (w27 : Int32) (g28 : Nat) (g29 : Nat) (w30 : Int32) (g31 : Nat) (g32 : Nat) (g33 : Nat) (ft : Nat → Int32) (ff : Nat → Int32) : Option Value → va_W → Prop := fun rr ww => (∃ (a2 : Nat) (b2 : Nat) (k2 : Int32) (n2 : Int32) (u2 : Int32) (l2 : Int32) (gf : Nat → Int32), rr = none ∧ ww = [(o, .inr (8, [.int w0, .ref g1, .ref g2, .ref g3, .ref g4, .int (nI tp), .int (nI a2), .int (nI b2), .int (nI sz), .int k2, .int n2, .int u2, .int l2, .int w13, .int w14, .ref g15, .int w16, .ref g17, .int w18, .int w19, .ref g20, .int w21, .ref g22, .ref g23, .ref g24, .int w25, .int w26, .int w27, .ref g28, .ref g29, .int w30, .ref g31, .ref g32, .ref g33])), (g3, .inl (T 0, 900, .inl ft)), (g4, .inl (T 0, 94, .inl gf))] ∧ FR n gf ∧ (a2 ≤ b2 ∧ b2 ≤ sz) ∧ be ≤ b2 ∧ (u2 = 0 → w11 = 0))
set_option maxHeartbeats 4000000 in
set_option maxRecDepth 100000 in
theorem m_readBlows (l : Launch) (D : va_G) (T : Nat → ClassId) (n : Nat) (o : Nat) (w0 : Int32) (g1 : Nat) (g2 : Nat) (g3 : Nat) (g4 : Nat) (tp : Nat) (at_ : Nat) (be : Nat) (sz : Nat) (w9 : Int32) (w10 : Int32) (w11 : Int32) (w12 : Int32) (w13 : Int32) (w14 : Int32) (g15 : Nat) (w16 : Int32) (g17 : Nat) (w18 : Int32) (w19 : Int32) (g20 : Nat) (w21 : Int32) (g22 : Nat) (g23 : Nat) (g24 : Nat) (w25 : Int32) (w26 : Int32) (w27 : Int32) (g28 : Nat) (g29 : Nat) (w30 : Int32) (g31 : Nat) (g32 : Nat) (g33 : Nat) (ft : Nat → Int32) (ff : Nat → Int32) (h_sz : sz ≤ 900) (h_ab : at_ ≤ be ∧ be ≤ sz) (h_fr : FR n ff) : Ct l yX8_readBlows cX8_readBlows 3 none 7 0 0 D T [.ref o] [(o, .inr (8, [.int w0, .ref g1, .ref g2, .ref g3, .ref g4, .int (nI tp), .int (nI at_), .int (nI be), .int (nI sz), .int w9, .int w10, .int w11, .int w12, .int w13, .int w14, .ref g15, .int w16, .ref g17, .int w18, .int w19, .ref g20, .int w21, .ref g22, .ref g23, .ref g24, .int w25, .int w26, .int w27, .ref g28, .ref g29, .int w30, .ref g31, .ref g32, .ref g33])), (g3, .inl (T 0, 900, .inl ft)), (g4, .inl (T 0, 94, .inl ff))] (q_m_readBlows T n o w0 g1 g2 g3 g4 tp at_ be sz w9 w10 w11 w12 w13 w14 g15 w16 g17 w18 w19 g20 w21 g22 g23 g24 w25 w26 w27 g28 g29 w30 g31 g32 g33 ft ff) := by
  refine Ct.of (cc := cX8_readBlows) (maxL := 3) (ret := none) (by decide) (Nat.le_of_ble_eq_true rfl) ?_
  intro p e s m args below meth c A ls hC hnm V hl
  obtain ⟨hx, hb, hr, hml, hown, hts, hlocks⟩ := id hC
  generalize hH : s.heap = H at V ⊢
  clear hH
  have hl : lv_has ls 3 [(0, .ref o)] := hl
  generalize hlo : ([] : List Loc) = locs at V ⊢
  clear hlo
  have hn10 := h_fr.1
  refine lv_aload_n hx hb dX8_readBlows_0 rfl (lv_at hl 0 rfl) ?_
  refine lv_iconst (v := (nI 0)) hx hb dX8_readBlows_1 (by decide +kernel) ?_
  refine lv_aload_n hx hb dX8_readBlows_2 rfl (lv_at hl 0 rfl) ?_
  refine g_get hC V (ci := 8) uwX8 0 rfl rfl 4 (by decide) w_916 rfl rfl dX8_readBlows_3 ?_
  refine lv_iconst (v := (nI 0)) hx hb dX8_readBlows_6 (by decide +kernel) ?_
  refine g_iald hC V 2 rfl (vp_in_nI (by decide) (by decide)) (v := (nI n)) (by rw [nI_clamp (by decide)]; first | rfl | exact h_fr.2.1) dX8_readBlows_7 ?_
  refine lv_iconst (v := (nI 1)) hx hb dX8_readBlows_8 (by decide +kernel) ?_
  refine lv_isub hx hb dX8_readBlows_9 ?_
  refine g_callV (wr := [(g4, .inl (T 0, 94, .inl ff))]) (nA := 2) hC V hl.1 (m_takes l D T o (nI 0) ((nI n) - (nI 1)) w0 g1 g2 g3 g4 tp at_ be sz w9 w10 w11 w12 w13 w14 g15 w16 g17 w18 w19 g20 w21 g22 g23 g24 w25 w26 w27 g28 g29 w30 g31 g32 g33 ft (by first | assumption | omega) (by first | assumption | omega)) w_1059 w_1061 w_s42 w_9 w_1062 (by decide +kernel) rfl ⟨(Nat.le_of_ble_eq_true rfl), (Nat.le_of_ble_eq_true rfl)⟩ 0 (ci := 8) rfl rfl [0, 1] [2] rfl rfl rfl rfl (by decide) (Nat.le_of_ble_eq_true rfl) dX8_readBlows_10 ⟨(Nat.le_of_ble_eq_true rfl), (Nat.le_of_ble_eq_true rfl)⟩ rfl (fun r w1 H locs hQ V => ?_)
  obtain ⟨z_1, a2_2, b2_3, k2_4, n2_5, u2_6, l2_7, rfl, rfl, f_8, f_9, f_10, f_11⟩ := hQ
  have V : gW D T A s [(g4, .inl (T 0, 94, .inl ff)), (o, .inr (8, [.int w0, .ref g1, .ref g2, .ref g3, .ref g4, .int (nI tp), .int (nI a2_2), .int (nI b2_3), .int (nI sz), .int k2_4, .int n2_5, .int u2_6, .int l2_7, .int w13, .int w14, .ref g15, .int w16, .ref g17, .int w18, .int w19, .ref g20, .int w21, .ref g22, .ref g23, .ref g24, .int w25, .int w26, .int w27, .ref g28, .ref g29, .int w30, .ref g31, .ref g32, .ref g33])), (g3, .inl (T 0, 900, .inl ft))] H locs := V
  show W p l e _ s m args below meth c H locs _ _ _ (F0 m 13 ls [.int z_1])
  refine lv_istore_n (lv' := [(1, .int z_1), (0, .ref o)]) hx hb dX8_readBlows_13 rfl hl (by decide) rfl (fun ls hl => ?_)
  refine lv_aload_n hx hb dX8_readBlows_14 rfl (lv_at hl 1 rfl) ?_
  refine lv_iconst (v := (nI 0)) hx hb dX8_readBlows_15 (by decide +kernel) ?_
  refine lv_aload_n hx hb dX8_readBlows_16 rfl (lv_at hl 1 rfl) ?_
  refine g_get hC V (ci := 8) uwX8 1 rfl rfl 4 (by decide) w_916 rfl rfl dX8_readBlows_17 ?_
  refine lv_iconst (v := (nI 0)) hx hb dX8_readBlows_20 (by decide +kernel) ?_
  refine g_iald hC V 0 rfl (vp_in_nI (by decide) (by decide)) (v := (nI n)) (by rw [nI_clamp (by decide)]; first | rfl | exact h_fr.2.1) dX8_readBlows_21 ?_
  refine lv_iconst (v := (nI 1)) hx hb dX8_readBlows_22 (by decide +kernel) ?_
  refine lv_isub hx hb dX8_readBlows_23 ?_
  refine g_callV (wr := [(g4, .inl (T 0, 94, .inl ff))]) (nA := 2) hC V hl.1 (m_takes l D T o (nI 0) ((nI n) - (nI 1)) w0 g1 g2 g3 g4 tp a2_2 b2_3 sz k2_4 n2_5 u2_6 l2_7 w13 w14 g15 w16 g17 w18 w19 g20 w21 g22 g23 g24 w25 w26 w27 g28 g29 w30 g31 g32 g33 ft (by first | assumption | omega) (by first | assumption | omega)) w_1059 w_1061 w_s42 w_9 w_1062 (by decide +kernel) rfl ⟨(Nat.le_of_ble_eq_true rfl), (Nat.le_of_ble_eq_true rfl)⟩ 1 (ci := 8) rfl rfl [1, 2] [0] rfl rfl rfl rfl (by decide) (Nat.le_of_ble_eq_true rfl) dX8_readBlows_24 ⟨(Nat.le_of_ble_eq_true rfl), (Nat.le_of_ble_eq_true rfl)⟩ rfl (fun r w1 H locs hQ V => ?_)
  obtain ⟨z_12, a2_13, b2_14, k2_15, n2_16, u2_17, l2_18, rfl, rfl, f_19, f_20, f_21, f_22⟩ := hQ
  have V : gW D T A s [(g4, .inl (T 0, 94, .inl ff)), (o, .inr (8, [.int w0, .ref g1, .ref g2, .ref g3, .ref g4, .int (nI tp), .int (nI a2_13), .int (nI b2_14), .int (nI sz), .int k2_15, .int n2_16, .int u2_17, .int l2_18, .int w13, .int w14, .ref g15, .int w16, .ref g17, .int w18, .int w19, .ref g20, .int w21, .ref g22, .ref g23, .ref g24, .int w25, .int w26, .int w27, .ref g28, .ref g29, .int w30, .ref g31, .ref g32, .ref g33])), (g3, .inl (T 0, 900, .inl ft))] H locs := V
  show W p l e _ s m args below meth c H locs _ _ _ (F0 m 27 ls [.int z_12])
  refine lv_istore_n (lv' := [(2, .int z_12), (1, .int z_1), (0, .ref o)]) hx hb dX8_readBlows_27 rfl hl (by decide) rfl (fun ls hl => ?_)
  refine lv_aload_n hx hb dX8_readBlows_28 rfl (lv_at hl 2 rfl) ?_
  refine g_get hC V (ci := 8) uwX8 1 rfl rfl 11 (by decide) w_923 rfl rfl dX8_readBlows_29 ?_
  refine lv_if_ne (tgt := 47) hx hb dX8_readBlows_32 (by decide) (fun c_23 => ?_) (fun c_23 => ?_)
  · skip
    have V := V.sub (ws' := [(o, .inr (8, [.int w0, .ref g1, .ref g2, .ref g3, .ref g4, .int (nI tp), .int (nI a2_13), .int (nI b2_14), .int (nI sz), .int k2_15, .int n2_16, .int u2_17, .int l2_18, .int w13, .int w14, .ref g15, .int w16, .ref g17, .int w18, .int w19, .ref g20, .int w21, .ref g22, .ref g23, .ref g24, .int w25, .int w26, .int w27, .ref g28, .ref g29, .int w30, .ref g31, .ref g32, .ref g33])), (g3, .inl (T 0, 900, .inl ft)), (g4, .inl (T 0, 94, .inl ff))]) [1, 2, 0] rfl rfl
    exact g_vret (Qr := (q_m_readBlows T n o w0 g1 g2 g3 g4 tp at_ be sz w9 w10 w11 w12 w13 w14 g15 w16 g17 w18 w19 g20 w21 g22 g23 g24 w25 w26 w27 g28 g29 w30 g31 g32 g33 ft ff)) hC V ⟨(Nat.le_of_ble_eq_true rfl), (Nat.le_of_ble_eq_true rfl)⟩ ⟨a2_13, b2_14, k2_15, n2_16, u2_17, l2_18, ff, rfl, rfl, h_fr, (by omega), (by omega), (fun h => absurd h (by assumption))⟩ dX8_readBlows_47
  · skip
    have hu1 := f_19 c_23
    obtain ⟨jw, hjw, ejw⟩ := pred_bd hn10 (f_10 hu1).1 (f_10 hu1).2
    obtain ⟨jv, hjv, ejv⟩ := pred_bd hn10 (f_21 c_23).1 (f_21 c_23).2
    rw [ejw, ejv] at hl
    refine lv_aload_n hx hb dX8_readBlows_35 rfl (lv_at hl 2 rfl) ?_
    refine g_get hC V (ci := 8) uwX8 1 rfl rfl 4 (by decide) w_916 rfl rfl dX8_readBlows_36 ?_
    refine lv_bipush (v := (nI 84)) hx hb dX8_readBlows_39 (by decide +kernel) ?_
    refine lv_iload_n hx hb dX8_readBlows_41 rfl (lv_at hl 1 rfl) ?_
    refine lv_iadd hx hb dX8_readBlows_42 ?_
    refine g_vi (y := (nI (84 + jw))) (nI_add _ _) ?_
    refine lv_iload_n hx hb dX8_readBlows_43 rfl (lv_at hl 0 rfl) ?_
    refine lv_iconst (v := (nI 1)) hx hb dX8_readBlows_44 (by decide +kernel) ?_
    refine lv_iadd hx hb dX8_readBlows_45 ?_
    refine g_vi (y := (nI (jv + 1))) (nI_add _ _) ?_
    refine g_iast hC V 0 rfl (vp_in_nI (by omega) (by omega)) (f' := (upd ff (84 + jw) (nI (jv + 1)))) (by rw [nI_clamp (by omega)]) (ws' := [(g4, .inl (T 0, 94, .inl (upd ff (84 + jw) (nI (jv + 1))))), (o, .inr (8, [.int w0, .ref g1, .ref g2, .ref g3, .ref g4, .int (nI tp), .int (nI a2_13), .int (nI b2_14), .int (nI sz), .int k2_15, .int n2_16, .int u2_17, .int l2_18, .int w13, .int w14, .ref g15, .int w16, .ref g17, .int w18, .int w19, .ref g20, .int w21, .ref g22, .ref g23, .ref g24, .int w25, .int w26, .int w27, .ref g28, .ref g29, .int w30, .ref g31, .ref g32, .ref g33])), (g3, .inl (T 0, 900, .inl ft))]) rfl dX8_readBlows_46 (fun H locs V => ?_)
    have V := V.sub (ws' := [(o, .inr (8, [.int w0, .ref g1, .ref g2, .ref g3, .ref g4, .int (nI tp), .int (nI a2_13), .int (nI b2_14), .int (nI sz), .int k2_15, .int n2_16, .int u2_17, .int l2_18, .int w13, .int w14, .ref g15, .int w16, .ref g17, .int w18, .int w19, .ref g20, .int w21, .ref g22, .ref g23, .ref g24, .int w25, .int w26, .int w27, .ref g28, .ref g29, .int w30, .ref g31, .ref g32, .ref g33])), (g3, .inl (T 0, 900, .inl ft)), (g4, .inl (T 0, 94, .inl (upd ff (84 + jw) (nI (jv + 1)))))]) [1, 2, 0] rfl rfl
    exact g_vret (Qr := (q_m_readBlows T n o w0 g1 g2 g3 g4 tp at_ be sz w9 w10 w11 w12 w13 w14 g15 w16 g17 w18 w19 g20 w21 g22 g23 g24 w25 w26 w27 g28 g29 w30 g31 g32 g33 ft ff)) hC V ⟨(Nat.le_of_ble_eq_true rfl), (Nat.le_of_ble_eq_true rfl)⟩ ⟨a2_13, b2_14, k2_15, n2_16, u2_17, l2_18, (upd ff (84 + jw) (nI (jv + 1))), rfl, rfl, (fr_blow h_fr (by omega) (bd_nI (by omega))), (by omega), (by omega), (fun _ => f_8 hu1)⟩ dX8_readBlows_47
