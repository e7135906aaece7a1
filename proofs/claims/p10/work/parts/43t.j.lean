/-- two SMITHS change their BLASTS -/
def swF (f : Nat → Int32) (a b : Nat) : Nat → Int32 := upd (upd f (4 + a) (f (4 + b))) (4 + b) (f (4 + a))
theorem swF_2 {f : Nat → Int32} {a b : Nat} (h : a < b) : swF (swF f a b) a b = f := by
  funext j
  unfold swF
  by_cases c : j = 4 + b
  · rw [c, up_same, up_other (by omega), up_same]
  · rw [up_other c]
    by_cases d : j = 4 + a
    · rw [d, up_same, up_same]
    · rw [up_other d, up_other c, up_other d]

def q_m_swaps_f (T : Nat → ClassId) (n : Nat) (o : Nat) (i : Nat) (j : Nat) (w0 : Int32) (g1 : Nat) (g2 : Nat) (g3 : Nat) (g4 : Nat) (tp : Nat) (w6 : Int32) (w7 : Int32) (w8 : Int32) (w9 : Int32) (w10 : Int32) (w11 : Int32) (w12 : Int32) (w13 : Int32) (w14 : Int32) (g15 : Nat) (w16 : Int32) (g17 : Nat) (w18 : Int32) (w19 : Int32) (g20 : Nat) (w21 : Int32) (g22 : Nat) (g23 : Nat) (g24 : Nat) (w25 : Int32) (w26 : Int32) (w27 : Int32) (g28 : Nat) (g29 : Nat) (w30 : Int32) (g31 : Nat) (g32 : Nat) (g33 : Nat) (fa : Nat → Int32) : Option Value → va_W → Prop := fun rr ww => (∃ (ga : Nat → Int32), rr = none ∧ ww = [(o, .inr (8, [.int w0, .ref g1, .ref g2, .ref g3, .ref g4, .int (nI tp), .int w6, .int w7, .int w8, .int w9, .int w10, .int w11, .int w12, .int w13, .int w14, .ref g15, .int w16, .ref g17, .int w18, .int w19, .ref g20, .int w21, .ref g22, .ref g23, .ref g24, .int w25, .int w26, .int w27, .ref g28, .ref g29, .int w30, .ref g31, .ref g32, .ref g33])), (g1, .inl (T 0, 282, .inl ga))] ∧ MS n fa ga ∧ ga = swF fa i j)
set_option maxHeartbeats 4000000 in
set_option maxRecDepth 100000 in
theorem m_swaps_f (l : Launch) (D : va_G) (T : Nat → ClassId) (n : Nat) (o : Nat) (i : Nat) (j : Nat) (w0 : Int32) (g1 : Nat) (g2 : Nat) (g3 : Nat) (g4 : Nat) (tp : Nat) (w6 : Int32) (w7 : Int32) (w8 : Int32) (w9 : Int32) (w10 : Int32) (w11 : Int32) (w12 : Int32) (w13 : Int32) (w14 : Int32) (g15 : Nat) (w16 : Int32) (g17 : Nat) (w18 : Int32) (w19 : Int32) (g20 : Nat) (w21 : Int32) (g22 : Nat) (g23 : Nat) (g24 : Nat) (w25 : Int32) (w26 : Int32) (w27 : Int32) (g28 : Nat) (g29 : Nat) (w30 : Int32) (g31 : Nat) (g32 : Nat) (g33 : Nat) (fa : Nat → Int32) (h_a : MI n fa) (h_i : i < n) (h_j : j < n) : Ct l yX8_swaps cX8_swaps 4 none 0 0 0 D T [.ref o, .int (nI i), .int (nI j)] [(o, .inr (8, [.int w0, .ref g1, .ref g2, .ref g3, .ref g4, .int (nI tp), .int w6, .int w7, .int w8, .int w9, .int w10, .int w11, .int w12, .int w13, .int w14, .ref g15, .int w16, .ref g17, .int w18, .int w19, .ref g20, .int w21, .ref g22, .ref g23, .ref g24, .int w25, .int w26, .int w27, .ref g28, .ref g29, .int w30, .ref g31, .ref g32, .ref g33])), (g1, .inl (T 0, 282, .inl fa))] (q_m_swaps_f T n o i j w0 g1 g2 g3 g4 tp w6 w7 w8 w9 w10 w11 w12 w13 w14 g15 w16 g17 w18 w19 g20 w21 g22 g23 g24 w25 w26 w27 g28 g29 w30 g31 g32 g33 fa) := by
  refine Ct.of (cc := cX8_swaps) (maxL := 4) (ret := none) (by decide) (Nat.le_of_ble_eq_true rfl) ?_
  intro p e s m args below meth c A ls hC hnm V hl
  obtain ⟨hx, hb, hr, hml, hown, hts, hlocks⟩ := id hC
  generalize hH : s.heap = H at V ⊢
  clear hH
  have hl : lv_has ls 4 [(0, .ref o), (1, .int (nI i)), (2, .int (nI j))] := hl
  generalize hlo : ([] : List Loc) = locs at V ⊢
  clear hlo
  have ms0 := ms_rf h_a
  have hn10 := h_a.1
  refine lv_aload_n hx hb dX8_swaps_0 rfl (lv_at hl 0 rfl) ?_
  refine g_get hC V (ci := 8) uwX8 0 rfl rfl 1 (by decide) w_913 rfl rfl dX8_swaps_1 ?_
  refine lv_iconst (v := (nI 4)) hx hb dX8_swaps_4 (by decide +kernel) ?_
  refine lv_iload_n hx hb dX8_swaps_5 rfl (lv_at hl 1 rfl) ?_
  refine lv_iadd hx hb dX8_swaps_6 ?_
  refine g_vi (y := (nI (4 + i))) (nI_add _ _) ?_
  obtain ⟨j_1, hj_1, ej_1⟩ := bd_ex (mi_blast h_a (i := i) (by omega))
  refine g_iald hC V 1 rfl (vp_in_nI (by omega) (by omega)) (v := (nI j_1)) (by rw [nI_clamp (by omega)]; exact ej_1) dX8_swaps_7 ?_
  refine lv_istore_n (lv' := [(3, .int (nI j_1)), (0, .ref o), (1, .int (nI i)), (2, .int (nI j))]) hx hb dX8_swaps_8 rfl hl (by decide) rfl (fun ls hl => ?_)
  refine lv_aload_n hx hb dX8_swaps_9 rfl (lv_at hl 1 rfl) ?_
  refine g_get hC V (ci := 8) uwX8 0 rfl rfl 1 (by decide) w_913 rfl rfl dX8_swaps_10 ?_
  refine lv_iconst (v := (nI 4)) hx hb dX8_swaps_13 (by decide +kernel) ?_
  refine lv_iload_n hx hb dX8_swaps_14 rfl (lv_at hl 2 rfl) ?_
  refine lv_iadd hx hb dX8_swaps_15 ?_
  refine g_vi (y := (nI (4 + i))) (nI_add _ _) ?_
  refine lv_aload_n hx hb dX8_swaps_16 rfl (lv_at hl 1 rfl) ?_
  refine g_get hC V (ci := 8) uwX8 0 rfl rfl 1 (by decide) w_913 rfl rfl dX8_swaps_17 ?_
  refine lv_iconst (v := (nI 4)) hx hb dX8_swaps_20 (by decide +kernel) ?_
  refine lv_iload_n hx hb dX8_swaps_21 rfl (lv_at hl 3 rfl) ?_
  refine lv_iadd hx hb dX8_swaps_22 ?_
  refine g_vi (y := (nI (4 + j))) (nI_add _ _) ?_
  obtain ⟨j_2, hj_2, ej_2⟩ := bd_ex (mi_blast h_a (i := j) (by omega))
  refine g_iald hC V 1 rfl (vp_in_nI (by omega) (by omega)) (v := (nI j_2)) (by rw [nI_clamp (by omega)]; exact ej_2) dX8_swaps_23 ?_
  obtain ⟨f_3, ef_3⟩ : ∃ x, x = upd fa (4 + i) (nI j_2) := ⟨_, rfl⟩
  have hf_3 : MS n fa f_3 := by rw [ef_3]; exact ms_st (by assumption) (by omega) (by omega) (by intros; first | (exfalso; omega) | exact bd_nI (by omega) | exact bd_le ‹bd (nI j_2) _› (by omega) | assumption) (by intros; first | (exfalso; omega) | exact bd_nI (by omega) | exact bd_le ‹bd (nI j_2) _› (by omega) | assumption) (by intros; first | (exfalso; omega) | exact bd_nI (by omega) | exact bd_le ‹bd (nI j_2) _› (by omega) | assumption) (by intros; first | (exfalso; omega) | exact bd_nI (by omega) | exact bd_le ‹bd (nI j_2) _› (by omega) | assumption) (by intros; first | (exfalso; omega) | exact bd_nI (by omega) | exact bd_le ‹bd (nI j_2) _› (by omega) | assumption) (by intros; first | (exfalso; omega) | exact bd_nI (by omega) | exact bd_le ‹bd (nI j_2) _› (by omega) | assumption) (by intros; first | (exfalso; omega) | exact bd_nI (by omega) | exact bd_le ‹bd (nI j_2) _› (by omega) | assumption)
  refine g_iast hC V 1 rfl (vp_in_nI (by omega) (by omega)) (f' := f_3) (by rw [nI_clamp (by omega)]; exact ef_3.symm) (ws' := [(o, .inr (8, [.int w0, .ref g1, .ref g2, .ref g3, .ref g4, .int (nI tp), .int w6, .int w7, .int w8, .int w9, .int w10, .int w11, .int w12, .int w13, .int w14, .ref g15, .int w16, .ref g17, .int w18, .int w19, .ref g20, .int w21, .ref g22, .ref g23, .ref g24, .int w25, .int w26, .int w27, .ref g28, .ref g29, .int w30, .ref g31, .ref g32, .ref g33])), (g1, .inl (T 0, 282, .inl f_3))]) rfl dX8_swaps_24 (fun H locs V => ?_)
  refine lv_aload_n hx hb dX8_swaps_25 rfl (lv_at hl 1 rfl) ?_
  refine g_get hC V (ci := 8) uwX8 0 rfl rfl 1 (by decide) w_913 rfl rfl dX8_swaps_26 ?_
  refine lv_iconst (v := (nI 4)) hx hb dX8_swaps_29 (by decide +kernel) ?_
  refine lv_iload_n hx hb dX8_swaps_30 rfl (lv_at hl 3 rfl) ?_
  refine lv_iadd hx hb dX8_swaps_31 ?_
  refine g_vi (y := (nI (4 + j))) (nI_add _ _) ?_
  refine lv_iload_n hx hb dX8_swaps_32 rfl (lv_at hl 0 rfl) ?_
  obtain ⟨f_4, ef_4⟩ : ∃ x, x = upd f_3 (4 + j) (nI j_1) := ⟨_, rfl⟩
  have hf_4 : MS n fa f_4 := by rw [ef_4]; exact ms_st (by assumption) (by omega) (by omega) (by intros; first | (exfalso; omega) | exact bd_nI (by omega) | exact bd_le ‹bd (nI j_1) _› (by omega) | assumption) (by intros; first | (exfalso; omega) | exact bd_nI (by omega) | exact bd_le ‹bd (nI j_1) _› (by omega) | assumption) (by intros; first | (exfalso; omega) | exact bd_nI (by omega) | exact bd_le ‹bd (nI j_1) _› (by omega) | assumption) (by intros; first | (exfalso; omega) | exact bd_nI (by omega) | exact bd_le ‹bd (nI j_1) _› (by omega) | assumption) (by intros; first | (exfalso; omega) | exact bd_nI (by omega) | exact bd_le ‹bd (nI j_1) _› (by omega) | assumption) (by intros; first | (exfalso; omega) | exact bd_nI (by omega) | exact bd_le ‹bd (nI j_1) _› (by omega) | assumption) (by intros; first | (exfalso; omega) | exact bd_nI (by omega) | exact bd_le ‹bd (nI j_1) _› (by omega) | assumption)
  refine g_iast hC V 1 rfl (vp_in_nI (by omega) (by omega)) (f' := f_4) (by rw [nI_clamp (by omega)]; exact ef_4.symm) (ws' := [(o, .inr (8, [.int w0, .ref g1, .ref g2, .ref g3, .ref g4, .int (nI tp), .int w6, .int w7, .int w8, .int w9, .int w10, .int w11, .int w12, .int w13, .int w14, .ref g15, .int w16, .ref g17, .int w18, .int w19, .ref g20, .int w21, .ref g22, .ref g23, .ref g24, .int w25, .int w26, .int w27, .ref g28, .ref g29, .int w30, .ref g31, .ref g32, .ref g33])), (g1, .inl (T 0, 282, .inl f_4))]) rfl dX8_swaps_33 (fun H locs V => ?_)
  exact g_vret (Qr := (q_m_swaps_f T n o i j w0 g1 g2 g3 g4 tp w6 w7 w8 w9 w10 w11 w12 w13 w14 g15 w16 g17 w18 w19 g20 w21 g22 g23 g24 w25 w26 w27 g28 g29 w30 g31 g32 g33 fa)) hC V ⟨(Nat.le_of_ble_eq_true rfl), (Nat.le_of_ble_eq_true rfl)⟩ ⟨f_4, rfl, rfl, hf_4, (by rw [ef_4, ef_3, ← ej_2, ← ej_1]; rfl)⟩ dX8_swaps_34
