/-- what holds of the street that is being read -/
def FR (n : Nat) (f : Nat → Int32) : Prop := n ≤ 10 ∧ f 0 = nI n ∧ bd (f 2) 21 ∧ (∀ i, i < n → bd (f (14 + i)) 31 ∧ bd (f (24 + i)) 256 ∧ bd (f (54 + i)) 21 ∧ bd (f (4 + i)) 61) ∧ (∀ i, i < 10 → f (64 + i) = nI 0) ∧ ∀ i, i < 10 → bd (f (84 + i)) (n + 1)
theorem fr_new {f : Nat → Int32} (h : ∀ j, j < 94 → f j = if j = 2 then nI 20 else nI 0) : FR 0 f := by
  refine ⟨by decide, by rw [h 0 (by decide)]; rfl, by rw [h 2 (by decide)]; exact bd_nI (by decide), fun i hi => absurd hi (Nat.not_lt_zero _), fun i hi => by rw [h _ (by omega), if_neg (by omega)], fun i hi => by rw [h _ (by omega), if_neg (by omega)]; exact bd_nI (by decide)⟩
theorem fr_lost {n : Nat} {f : Nat → Int32} {x : Int32} (h : FR n f) (hx : bd x 21) : FR n (upd f 2 x) := by
  obtain ⟨a1, a2, a3, a4, a5, a6⟩ := h
  refine ⟨a1, by rw [up_other (by decide)]; exact a2, by rw [up_same]; exact hx, fun i hi => ?_, fun i hi => by rw [up_other (by omega)]; exact a5 i hi, fun i hi => by rw [up_other (by omega)]; exact a6 i hi⟩
  rw [up_other (by omega), up_other (by omega), up_other (by omega), up_other (by omega)]
  exact a4 i hi
theorem fr_line {n : Nat} {f : Nat → Int32} {x : Int32} (h : FR n f) : FR n (upd f 3 x) := by
  obtain ⟨a1, a2, a3, a4, a5, a6⟩ := h
  refine ⟨a1, by rw [up_other (by decide)]; exact a2, by rw [up_other (by decide)]; exact a3, fun i hi => ?_, fun i hi => by rw [up_other (by omega)]; exact a5 i hi, fun i hi => by rw [up_other (by omega)]; exact a6 i hi⟩
  rw [up_other (by omega), up_other (by omega), up_other (by omega), up_other (by omega)]
  exact a4 i hi
theorem fr_blow {n k : Nat} {f : Nat → Int32} {x : Int32} (h : FR n f) (hk : k < 10) (hx : bd x (n + 1)) : FR n (upd f (84 + k) x) := by
  obtain ⟨a1, a2, a3, a4, a5, a6⟩ := h
  refine ⟨a1, by rw [up_other (by omega)]; exact a2, by rw [up_other (by omega)]; exact a3, fun i hi => ?_, fun i hi => by rw [up_other (by omega)]; exact a5 i hi, fun i hi => ?_⟩
  · rw [up_other (by omega), up_other (by omega), up_other (by omega), up_other (by omega)]
    exact a4 i hi
  · by_cases e : i = k
    · subst e; rw [up_same]; exact hx
    · rw [up_other (by omega)]; exact a6 i hi
theorem fr_add {n : Nat} {f g : Nat → Int32} (h : FR n f) (hn : n < 10) (h0 : g 0 = nI (n + 1)) (h2 : g 2 = f 2) (hs : ∀ j, (∀ b, b = 0 ∨ b = 4 + n ∨ b = 14 + n ∨ b = 24 + n ∨ b = 34 + n ∨ b = 44 + n ∨ b = 54 + n → j ≠ b) → g j = f j) (b4 : bd (g (4 + n)) 61) (b14 : bd (g (14 + n)) 31) (b24 : bd (g (24 + n)) 256) (b54 : bd (g (54 + n)) 21) : FR (n + 1) g := by
  obtain ⟨a1, a2, a3, a4, a5, a6⟩ := h
  refine ⟨by omega, h0, by rw [h2]; exact a3, fun i hi => ?_, fun i hi => by rw [hs _ (by intros; omega)]; exact a5 i hi, fun i hi => by rw [hs _ (by intros; omega)]; exact bd_le (a6 i hi) (by omega)⟩
  by_cases e : i = n
  · subst e; exact ⟨b14, b24, b54, b4⟩
  · rw [hs (14 + i) (by intros; omega), hs (24 + i) (by intros; omega), hs (54 + i) (by intros; omega), hs (4 + i) (by intros; omega)]
    exact a4 i (by omega)
theorem rg_bd {x : Int32} {b : Nat} (h : ¬ x < nI 0 ∧ ¬ nI b < x) (hb : b < 1000) : bd x (b + 1) := by
  obtain ⟨j, h1, h2, e⟩ := g_rng (by decide) (by omega) h.1 h.2
  exact ⟨j, by omega, e⟩
theorem rg_or {x : Int32} {b c : Nat} (h : (¬ x < nI 0 ∧ ¬ nI b < x) ∨ x = nI c) (hb : b < 1000) (hc : c ≤ b) : bd x (b + 1) := by
  rcases h with h | h
  · exact rg_bd h hb
  · rw [h]; exact bd_nI (by omega)

def q_m_fails (T : Nat → ClassId) (o : Nat) (ft : Int32) (w0 : Int32) (g1 : Nat) (g2 : Nat) (g3 : Nat) (g4 : Nat) (tp : Nat) (at_ : Nat) (be : Nat) (w8 : Int32) (w9 : Int32) (w10 : Int32) (w11 : Int32) (w12 : Int32) (w13 : Int32) (w14 : Int32) (g15 : Nat) (w16 : Int32) (g17 : Nat) (w18 : Int32) (w19 : Int32) (g20 : Nat) (w21 : Int32) (g22 : Nat) (g23 : Nat) (g24 : Nat) (w25 : Int32) (w26 : Int32) (w27 : Int32) (g28 : Nat) (g29 : Nat) (w30 : Int32) (g31 : Nat) (g32 : Nat) (g33 : Nat) : Option Value → va_W → Prop := fun rr ww => (∃ (u2 : Int32) (l2 : Int32), rr = none ∧ ww = [(o, .inr (8, [.int w0, .ref g1, .ref g2, .ref g3, .ref g4, .int (nI tp), .int (nI at_), .int (nI be), .int w8, .int w9, .int w10, .int u2, .int l2, .int w13, .int w14, .ref g15, .int w16, .ref g17, .int w18, .int w19, .ref g20, .int w21, .ref g22, .ref g23, .ref g24, .int w25, .int w26, .int w27, .ref g28, .ref g29, .int w30, .ref g31, .ref g32, .ref g33]))] ∧ ¬ u2 = 0)
set_option maxHeartbeats 4000000 in
set_option maxRecDepth 100000 in
theorem m_fails (l : Launch) (D : va_G) (T : Nat → ClassId) (o : Nat) (ft : Int32) (w0 : Int32) (g1 : Nat) (g2 : Nat) (g3 : Nat) (g4 : Nat) (tp : Nat) (at_ : Nat) (be : Nat) (w8 : Int32) (w9 : Int32) (w10 : Int32) (w11 : Int32) (w12 : Int32) (w13 : Int32) (w14 : Int32) (g15 : Nat) (w16 : Int32) (g17 : Nat) (w18 : Int32) (w19 : Int32) (g20 : Nat) (w21 : Int32) (g22 : Nat) (g23 : Nat) (g24 : Nat) (w25 : Int32) (w26 : Int32) (w27 : Int32) (g28 : Nat) (g29 : Nat) (w30 : Int32) (g31 : Nat) (g32 : Nat) (g33 : Nat) (h_w : ¬ ft = 0) : Ct l yX8_fails cX8_fails 2 none 0 0 0 D T [.ref o, .int ft] [(o, .inr (8, [.int w0, .ref g1, .ref g2, .ref g3, .ref g4, .int (nI tp), .int (nI at_), .int (nI be), .int w8, .int w9, .int w10, .int w11, .int w12, .int w13, .int w14, .ref g15, .int w16, .ref g17, .int w18, .int w19, .ref g20, .int w21, .ref g22, .ref g23, .ref g24, .int w25, .int w26, .int w27, .ref g28, .ref g29, .int w30, .ref g31, .ref g32, .ref g33]))] (q_m_fails T o ft w0 g1 g2 g3 g4 tp at_ be w8 w9 w10 w11 w12 w13 w14 g15 w16 g17 w18 w19 g20 w21 g22 g23 g24 w25 w26 w27 g28 g29 w30 g31 g32 g33) := by
  refine Ct.of (cc := cX8_fails) (maxL := 2) (ret := none) (by decide) (Nat.le_of_ble_eq_true rfl) ?_
  intro p e s m args below meth c A ls hC hnm V hl
  obtain ⟨hx, hb, hr, hml, hown, hts, hlocks⟩ := id hC
  generalize hH : s.heap = H at V ⊢
  clear hH
  have hl : lv_has ls 2 [(0, .ref o), (1, .int ft)] := hl
  generalize hlo : ([] : List Loc) = locs at V ⊢
  clear hlo
  refine lv_aload_n hx hb dX8_fails_0 rfl (lv_at hl 0 rfl) ?_
  refine g_get hC V (ci := 8) uwX8 0 rfl rfl 11 (by decide) w_923 rfl rfl dX8_fails_1 ?_
  refine lv_if_eq (tgt := 8) hx hb dX8_fails_4 (by decide) (fun c_1 => ?_) (fun c_1 => ?_)
  · skip
    refine lv_aload_n hx hb dX8_fails_8 rfl (lv_at hl 0 rfl) ?_
    refine lv_aload_n hx hb dX8_fails_9 rfl (lv_at hl 0 rfl) ?_
    refine g_get hC V (ci := 8) uwX8 0 rfl rfl 9 (by decide) w_921 rfl rfl dX8_fails_10 ?_
    refine lv_bipush (v := (nI 12)) hx hb dX8_fails_13 (by decide +kernel) ?_
    refine lv_icmp_ne (tgt := 22) hx hb dX8_fails_15 (by decide) (fun c_2 => ?_) (fun c_2 => ?_)
    · skip
      refine lv_iload_n hx hb dX8_fails_22 rfl (lv_at hl 1 rfl) ?_
      refine g_put hC V (ci := 8) uwX8 tyX8 tyX8_ok nmX8 0 rfl rfl 11 (by decide) w_923 rfl rfl rfl rfl (Nat.le_of_ble_eq_true rfl) (ws' := [(o, .inr (8, [.int w0, .ref g1, .ref g2, .ref g3, .ref g4, .int (nI tp), .int (nI at_), .int (nI be), .int w8, .int w9, .int w10, .int ft, .int w12, .int w13, .int w14, .ref g15, .int w16, .ref g17, .int w18, .int w19, .ref g20, .int w21, .ref g22, .ref g23, .ref g24, .int w25, .int w26, .int w27, .ref g28, .ref g29, .int w30, .ref g31, .ref g32, .ref g33]))]) rfl dX8_fails_23 (fun H locs V => ?_)
      refine lv_aload_n hx hb dX8_fails_26 rfl (lv_at hl 0 rfl) ?_
      refine lv_aload_n hx hb dX8_fails_27 rfl (lv_at hl 0 rfl) ?_
      refine g_get hC V (ci := 8) uwX8 0 rfl rfl 6 (by decide) w_918 rfl rfl dX8_fails_28 ?_
      refine g_put hC V (ci := 8) uwX8 tyX8 tyX8_ok nmX8 0 rfl rfl 12 (by decide) w_924 rfl rfl rfl rfl (Nat.le_of_ble_eq_true rfl) (ws' := [(o, .inr (8, [.int w0, .ref g1, .ref g2, .ref g3, .ref g4, .int (nI tp), .int (nI at_), .int (nI be), .int w8, .int w9, .int w10, .int ft, .int (nI at_), .int w13, .int w14, .ref g15, .int w16, .ref g17, .int w18, .int w19, .ref g20, .int w21, .ref g22, .ref g23, .ref g24, .int w25, .int w26, .int w27, .ref g28, .ref g29, .int w30, .ref g31, .ref g32, .ref g33]))]) rfl dX8_fails_31 (fun H locs V => ?_)
      exact g_vret (Qr := (q_m_fails T o ft w0 g1 g2 g3 g4 tp at_ be w8 w9 w10 w11 w12 w13 w14 g15 w16 g17 w18 w19 g20 w21 g22 g23 g24 w25 w26 w27 g28 g29 w30 g31 g32 g33)) hC V ⟨(Nat.le_of_ble_eq_true rfl), (Nat.le_of_ble_eq_true rfl)⟩ ⟨ft, (nI at_), rfl, rfl, (by first | assumption | decide +kernel)⟩ dX8_fails_34
    · skip
      refine lv_iconst (v := (nI 1)) hx hb dX8_fails_18 (by decide +kernel) ?_
      refine lv_goto (tgt := 23) hx hb dX8_fails_19 (by decide) ?_
      refine g_put hC V (ci := 8) uwX8 tyX8 tyX8_ok nmX8 0 rfl rfl 11 (by decide) w_923 rfl rfl rfl rfl (Nat.le_of_ble_eq_true rfl) (ws' := [(o, .inr (8, [.int w0, .ref g1, .ref g2, .ref g3, .ref g4, .int (nI tp), .int (nI at_), .int (nI be), .int w8, .int w9, .int w10, .int (nI 1), .int w12, .int w13, .int w14, .ref g15, .int w16, .ref g17, .int w18, .int w19, .ref g20, .int w21, .ref g22, .ref g23, .ref g24, .int w25, .int w26, .int w27, .ref g28, .ref g29, .int w30, .ref g31, .ref g32, .ref g33]))]) rfl dX8_fails_23 (fun H locs V => ?_)
      refine lv_aload_n hx hb dX8_fails_26 rfl (lv_at hl 0 rfl) ?_
      refine lv_aload_n hx hb dX8_fails_27 rfl (lv_at hl 0 rfl) ?_
      refine g_get hC V (ci := 8) uwX8 0 rfl rfl 6 (by decide) w_918 rfl rfl dX8_fails_28 ?_
      refine g_put hC V (ci := 8) uwX8 tyX8 tyX8_ok nmX8 0 rfl rfl 12 (by decide) w_924 rfl rfl rfl rfl (Nat.le_of_ble_eq_true rfl) (ws' := [(o, .inr (8, [.int w0, .ref g1, .ref g2, .ref g3, .ref g4, .int (nI tp), .int (nI at_), .int (nI be), .int w8, .int w9, .int w10, .int (nI 1), .int (nI at_), .int w13, .int w14, .ref g15, .int w16, .ref g17, .int w18, .int w19, .ref g20, .int w21, .ref g22, .ref g23, .ref g24, .int w25, .int w26, .int w27, .ref g28, .ref g29, .int w30, .ref g31, .ref g32, .ref g33]))]) rfl dX8_fails_31 (fun H locs V => ?_)
      exact g_vret (Qr := (q_m_fails T o ft w0 g1 g2 g3 g4 tp at_ be w8 w9 w10 w11 w12 w13 w14 g15 w16 g17 w18 w19 g20 w21 g22 g23 g24 w25 w26 w27 g28 g29 w30 g31 g32 g33)) hC V ⟨(Nat.le_of_ble_eq_true rfl), (Nat.le_of_ble_eq_true rfl)⟩ ⟨(nI 1), (nI at_), rfl, rfl, (by first | assumption | decide +kernel)⟩ dX8_fails_34
  · skip
    exact g_vret (Qr := (q_m_fails T o ft w0 g1 g2 g3 g4 tp at_ be w8 w9 w10 w11 w12 w13 w14 g15 w16 g17 w18 w19 g20 w21 g22 g23 g24 w25 w26 w27 g28 g29 w30 g31 g32 g33)) hC V ⟨(Nat.le_of_ble_eq_true rfl), (Nat.le_of_ble_eq_true rfl)⟩ ⟨w11, w12, rfl, rfl, (by first | assumption | decide +kernel)⟩ dX8_fails_7

def q_m_is (T : Nat → ClassId) (o : Nat) (k : Int32) (w0 : Int32) (g1 : Nat) (g2 : Nat) (g3 : Nat) (g4 : Nat) (tp : Nat) (at_ : Nat) (be : Nat) (w8 : Int32) (w9 : Int32) (w10 : Int32) (w11 : Int32) (w12 : Int32) (w13 : Int32) (w14 : Int32) (g15 : Nat) (w16 : Int32) (g17 : Nat) (w18 : Int32) (w19 : Int32) (g20 : Nat) (w21 : Int32) (g22 : Nat) (g23 : Nat) (g24 : Nat) (w25 : Int32) (w26 : Int32) (w27 : Int32) (g28 : Nat) (g29 : Nat) (w30 : Int32) (g31 : Nat) (g32 : Nat) (g33 : Nat) : Option Value → va_W → Prop := fun rr ww => (rr = some (.int (nI 1)) ∧ ww = [(o, .inr (8, [.int w0, .ref g1, .ref g2, .ref g3, .ref g4, .int (nI tp), .int (nI at_), .int (nI be), .int w8, .int w9, .int w10, .int w11, .int w12, .int w13, .int w14, .ref g15, .int w16, .ref g17, .int w18, .int w19, .ref g20, .int w21, .ref g22, .ref g23, .ref g24, .int w25, .int w26, .int w27, .ref g28, .ref g29, .int w30, .ref g31, .ref g32, .ref g33]))] ∧ w11 = 0 ∧ w9 = k) ∨ (rr = some (.int (nI 0)) ∧ ww = [(o, .inr (8, [.int w0, .ref g1, .ref g2, .ref g3, .ref g4, .int (nI tp), .int (nI at_), .int (nI be), .int w8, .int w9, .int w10, .int w11, .int w12, .int w13, .int w14, .ref g15, .int w16, .ref g17, .int w18, .int w19, .ref g20, .int w21, .ref g22, .ref g23, .ref g24, .int w25, .int w26, .int w27, .ref g28, .ref g29, .int w30, .ref g31, .ref g32, .ref g33]))])
set_option maxHeartbeats 4000000 in
set_option maxRecDepth 100000 in
theorem m_is (l : Launch) (D : va_G) (T : Nat → ClassId) (o : Nat) (k : Int32) (w0 : Int32) (g1 : Nat) (g2 : Nat) (g3 : Nat) (g4 : Nat) (tp : Nat) (at_ : Nat) (be : Nat) (w8 : Int32) (w9 : Int32) (w10 : Int32) (w11 : Int32) (w12 : Int32) (w13 : Int32) (w14 : Int32) (g15 : Nat) (w16 : Int32) (g17 : Nat) (w18 : Int32) (w19 : Int32) (g20 : Nat) (w21 : Int32) (g22 : Nat) (g23 : Nat) (g24 : Nat) (w25 : Int32) (w26 : Int32) (w27 : Int32) (g28 : Nat) (g29 : Nat) (w30 : Int32) (g31 : Nat) (g32 : Nat) (g33 : Nat) : Ct l yX8_is cX8_is 2 (some .boolean) 0 0 0 D T [.ref o, .int k] [(o, .inr (8, [.int w0, .ref g1, .ref g2, .ref g3, .ref g4, .int (nI tp), .int (nI at_), .int (nI be), .int w8, .int w9, .int w10, .int w11, .int w12, .int w13, .int w14, .ref g15, .int w16, .ref g17, .int w18, .int w19, .ref g20, .int w21, .ref g22, .ref g23, .ref g24, .int w25, .int w26, .int w27, .ref g28, .ref g29, .int w30, .ref g31, .ref g32, .ref g33]))] (q_m_is T o k w0 g1 g2 g3 g4 tp at_ be w8 w9 w10 w11 w12 w13 w14 g15 w16 g17 w18 w19 g20 w21 g22 g23 g24 w25 w26 w27 g28 g29 w30 g31 g32 g33) := by
  refine Ct.of (cc := cX8_is) (maxL := 2) (ret := (some .boolean)) (by decide) (Nat.le_of_ble_eq_true rfl) ?_
  intro p e s m args below meth c A ls hC hnm V hl
  obtain ⟨hx, hb, hr, hml, hown, hts, hlocks⟩ := id hC
  generalize hH : s.heap = H at V ⊢
  clear hH
  have hl : lv_has ls 2 [(0, .ref o), (1, .int k)] := hl
  generalize hlo : ([] : List Loc) = locs at V ⊢
  clear hlo
  refine lv_aload_n hx hb dX8_is_0 rfl (lv_at hl 0 rfl) ?_
  refine g_get hC V (ci := 8) uwX8 0 rfl rfl 11 (by decide) w_923 rfl rfl dX8_is_1 ?_
  refine lv_if_ne (tgt := 19) hx hb dX8_is_4 (by decide) (fun c_1 => ?_) (fun c_1 => ?_)
  · skip
    refine lv_iconst (v := (nI 0)) hx hb dX8_is_19 (by decide +kernel) ?_
    exact g_zret (Qr := (q_m_is T o k w0 g1 g2 g3 g4 tp at_ be w8 w9 w10 w11 w12 w13 w14 g15 w16 g17 w18 w19 g20 w21 g22 g23 g24 w25 w26 w27 g28 g29 w30 g31 g32 g33)) hC V ⟨(Nat.le_of_ble_eq_true rfl), (Nat.le_of_ble_eq_true rfl)⟩ (by first | decide +kernel | exact rfl) (.inr ⟨rfl, rfl⟩) dX8_is_20
  · skip
    refine lv_aload_n hx hb dX8_is_7 rfl (lv_at hl 0 rfl) ?_
    refine g_get hC V (ci := 8) uwX8 0 rfl rfl 9 (by decide) w_921 rfl rfl dX8_is_8 ?_
    refine lv_iload_n hx hb dX8_is_11 rfl (lv_at hl 1 rfl) ?_
    refine lv_icmp_ne (tgt := 19) hx hb dX8_is_12 (by decide) (fun c_2 => ?_) (fun c_2 => ?_)
    · skip
      refine lv_iconst (v := (nI 0)) hx hb dX8_is_19 (by decide +kernel) ?_
      exact g_zret (Qr := (q_m_is T o k w0 g1 g2 g3 g4 tp at_ be w8 w9 w10 w11 w12 w13 w14 g15 w16 g17 w18 w19 g20 w21 g22 g23 g24 w25 w26 w27 g28 g29 w30 g31 g32 g33)) hC V ⟨(Nat.le_of_ble_eq_true rfl), (Nat.le_of_ble_eq_true rfl)⟩ (by first | decide +kernel | exact rfl) (.inr ⟨rfl, rfl⟩) dX8_is_20
    · skip
      refine lv_iconst (v := (nI 1)) hx hb dX8_is_15 (by decide +kernel) ?_
      refine lv_goto (tgt := 20) hx hb dX8_is_16 (by decide) ?_
      exact g_zret (Qr := (q_m_is T o k w0 g1 g2 g3 g4 tp at_ be w8 w9 w10 w11 w12 w13 w14 g15 w16 g17 w18 w19 g20 w21 g22 g23 g24 w25 w26 w27 g28 g29 w30 g31 g32 g33)) hC V ⟨(Nat.le_of_ble_eq_true rfl), (Nat.le_of_ble_eq_true rfl)⟩ (by first | decide +kernel | exact rfl) (.inl ⟨rfl, rfl, (by first | assumption | omega), (by first | assumption | omega)⟩) dX8_is_20

def q_m_eats (T : Nat → ClassId) (o : Nat) (k : Int32) (w0 : Int32) (g1 : Nat) (g2 : Nat) (g3 : Nat) (g4 : Nat) (tp : Nat) (at_ : Nat) (be : Nat) (sz : Nat) (w9 : Int32) (w10 : Int32) (w11 : Int32) (w12 : Int32) (w13 : Int32) (w14 : Int32) (g15 : Nat) (w16 : Int32) (g17 : Nat) (w18 : Int32) (w19 : Int32) (g20 : Nat) (w21 : Int32) (g22 : Nat) (g23 : Nat) (g24 : Nat) (w25 : Int32) (w26 : Int32) (w27 : Int32) (g28 : Nat) (g29 : Nat) (w30 : Int32) (g31 : Nat) (g32 : Nat) (g33 : Nat) (ft : Nat → Int32) : Option Value → va_W → Prop := fun rr ww => (∃ (a2 : Nat) (b2 : Nat) (k2 : Int32) (n2 : Int32), rr = some (.int (nI 1)) ∧ ww = [(o, .inr (8, [.int w0, .ref g1, .ref g2, .ref g3, .ref g4, .int (nI tp), .int (nI a2), .int (nI b2), .int (nI sz), .int k2, .int n2, .int w11, .int w12, .int w13, .int w14, .ref g15, .int w16, .ref g17, .int w18, .int w19, .ref g20, .int w21, .ref g22, .ref g23, .ref g24, .int w25, .int w26, .int w27, .ref g28, .ref g29, .int w30, .ref g31, .ref g32, .ref g33])), (g3, .inl (T 0, 900, .inl ft))] ∧ (a2 ≤ b2 ∧ b2 ≤ sz) ∧ w11 = 0 ∧ w9 = k ∧ be ≤ b2 ∧ (k2 = nI 11 ∨ be < b2)) ∨ (rr = some (.int (nI 0)) ∧ ww = [(o, .inr (8, [.int w0, .ref g1, .ref g2, .ref g3, .ref g4, .int (nI tp), .int (nI at_), .int (nI be), .int (nI sz), .int w9, .int w10, .int w11, .int w12, .int w13, .int w14, .ref g15, .int w16, .ref g17, .int w18, .int w19, .ref g20, .int w21, .ref g22, .ref g23, .ref g24, .int w25, .int w26, .int w27, .ref g28, .ref g29, .int w30, .ref g31, .ref g32, .ref g33])), (g3, .inl (T 0, 900, .inl ft))])
set_option maxHeartbeats 4000000 in
set_option maxRecDepth 100000 in
theorem m_eats (l : Launch) (D : va_G) (T : Nat → ClassId) (o : Nat) (k : Int32) (w0 : Int32) (g1 : Nat) (g2 : Nat) (g3 : Nat) (g4 : Nat) (tp : Nat) (at_ : Nat) (be : Nat) (sz : Nat) (w9 : Int32) (w10 : Int32) (w11 : Int32) (w12 : Int32) (w13 : Int32) (w14 : Int32) (g15 : Nat) (w16 : Int32) (g17 : Nat) (w18 : Int32) (w19 : Int32) (g20 : Nat) (w21 : Int32) (g22 : Nat) (g23 : Nat) (g24 : Nat) (w25 : Int32) (w26 : Int32) (w27 : Int32) (g28 : Nat) (g29 : Nat) (w30 : Int32) (g31 : Nat) (g32 : Nat) (g33 : Nat) (ft : Nat → Int32) (h_sz : sz ≤ 900) (h_ab : at_ ≤ be ∧ be ≤ sz) : Ct l yX8_eats cX8_eats 2 (some .boolean) 6 0 0 D T [.ref o, .int k] [(o, .inr (8, [.int w0, .ref g1, .ref g2, .ref g3, .ref g4, .int (nI tp), .int (nI at_), .int (nI be), .int (nI sz), .int w9, .int w10, .int w11, .int w12, .int w13, .int w14, .ref g15, .int w16, .ref g17, .int w18, .int w19, .ref g20, .int w21, .ref g22, .ref g23, .ref g24, .int w25, .int w26, .int w27, .ref g28, .ref g29, .int w30, .ref g31, .ref g32, .ref g33])), (g3, .inl (T 0, 900, .inl ft))] (q_m_eats T o k w0 g1 g2 g3 g4 tp at_ be sz w9 w10 w11 w12 w13 w14 g15 w16 g17 w18 w19 g20 w21 g22 g23 g24 w25 w26 w27 g28 g29 w30 g31 g32 g33 ft) := by
  refine Ct.of (cc := cX8_eats) (maxL := 2) (ret := (some .boolean)) (by decide) (Nat.le_of_ble_eq_true rfl) ?_
  intro p e s m args below meth c A ls hC hnm V hl
  obtain ⟨hx, hb, hr, hml, hown, hts, hlocks⟩ := id hC
  generalize hH : s.heap = H at V ⊢
  clear hH
  have hl : lv_has ls 2 [(0, .ref o), (1, .int k)] := hl
  generalize hlo : ([] : List Loc) = locs at V ⊢
  clear hlo
  refine lv_aload_n hx hb dX8_eats_0 rfl (lv_at hl 0 rfl) ?_
  refine lv_iload_n hx hb dX8_eats_1 rfl (lv_at hl 1 rfl) ?_
  refine g_callV (wr := [(g3, .inl (T 0, 900, .inl ft))]) (nA := 1) hC V hl.1 (m_is l D T o k w0 g1 g2 g3 g4 tp at_ be (nI sz) w9 w10 w11 w12 w13 w14 g15 w16 g17 w18 w19 g20 w21 g22 g23 g24 w25 w26 w27 g28 g29 w30 g31 g32 g33) w_1047 w_1049 w_s39 w_9 w_1050 (by decide +kernel) rfl ⟨(Nat.le_of_ble_eq_true rfl), (Nat.le_of_ble_eq_true rfl)⟩ 0 (ci := 8) rfl rfl [0] [1] rfl rfl rfl rfl (by decide) (Nat.le_of_ble_eq_true rfl) dX8_eats_2 ⟨(Nat.le_of_ble_eq_true rfl), (Nat.le_of_ble_eq_true rfl)⟩ rfl (fun r w1 H locs hQ V => ?_)
  rcases hQ with ⟨rfl, rfl, f_1, f_2⟩ | ⟨rfl, rfl⟩
  · have V : gW D T A s [(g3, .inl (T 0, 900, .inl ft)), (o, .inr (8, [.int w0, .ref g1, .ref g2, .ref g3, .ref g4, .int (nI tp), .int (nI at_), .int (nI be), .int (nI sz), .int w9, .int w10, .int w11, .int w12, .int w13, .int w14, .ref g15, .int w16, .ref g17, .int w18, .int w19, .ref g20, .int w21, .ref g22, .ref g23, .ref g24, .int w25, .int w26, .int w27, .ref g28, .ref g29, .int w30, .ref g31, .ref g32, .ref g33]))] H locs := V
    show W p l e _ s m args below meth c H locs _ _ _ (F0 m 5 ls [.int (nI 1)])
    refine lv_if_ne (tgt := 10) hx hb dX8_eats_5 (by decide) (fun _ => ?_) (fun c => absurd (show (nI 1) = 0 from c) (by decide +kernel))
    refine lv_aload_n hx hb dX8_eats_10 rfl (lv_at hl 0 rfl) ?_
    refine g_callV (wr := []) (nA := 0) hC V hl.1 (m_next l D T o w0 g1 g2 g3 g4 tp (nI at_) be sz w9 w10 w11 w12 w13 w14 g15 w16 g17 w18 w19 g20 w21 g22 g23 g24 w25 w26 w27 g28 g29 w30 g31 g32 g33 ft (by first | assumption | omega) (by first | assumption | omega)) w_1026 w_1028 w_s36 w_9 w_1029 (by decide +kernel) rfl ⟨(Nat.le_of_ble_eq_true rfl), (Nat.le_of_ble_eq_true rfl)⟩ 1 (ci := 8) rfl rfl [1, 0] [] rfl rfl rfl rfl (by decide) (Nat.le_of_ble_eq_true rfl) dX8_eats_11 ⟨(Nat.le_of_ble_eq_true rfl), (Nat.le_of_ble_eq_true rfl)⟩ rfl (fun r w1 H locs hQ V => ?_)
    obtain ⟨a2_3, b2_4, k2_5, n2_6, rfl, rfl, f_7, f_8, f_9⟩ := hQ
    have V : gW D T A s [(o, .inr (8, [.int w0, .ref g1, .ref g2, .ref g3, .ref g4, .int (nI tp), .int (nI a2_3), .int (nI b2_4), .int (nI sz), .int k2_5, .int n2_6, .int w11, .int w12, .int w13, .int w14, .ref g15, .int w16, .ref g17, .int w18, .int w19, .ref g20, .int w21, .ref g22, .ref g23, .ref g24, .int w25, .int w26, .int w27, .ref g28, .ref g29, .int w30, .ref g31, .ref g32, .ref g33])), (g3, .inl (T 0, 900, .inl ft))] H locs := V
    show W p l e _ s m args below meth c H locs _ _ _ (F0 m 14 ls [])
    refine lv_iconst (v := (nI 1)) hx hb dX8_eats_14 (by decide +kernel) ?_
    exact g_zret (Qr := (q_m_eats T o k w0 g1 g2 g3 g4 tp at_ be sz w9 w10 w11 w12 w13 w14 g15 w16 g17 w18 w19 g20 w21 g22 g23 g24 w25 w26 w27 g28 g29 w30 g31 g32 g33 ft)) hC V ⟨(Nat.le_of_ble_eq_true rfl), (Nat.le_of_ble_eq_true rfl)⟩ (by first | decide +kernel | exact rfl) (.inl ⟨a2_3, b2_4, k2_5, n2_6, rfl, rfl, (by first | assumption | omega), (by first | assumption | omega), (by first | assumption | omega), (by first | assumption | omega), (by first | assumption | omega)⟩) dX8_eats_15
  · have V : gW D T A s [(g3, .inl (T 0, 900, .inl ft)), (o, .inr (8, [.int w0, .ref g1, .ref g2, .ref g3, .ref g4, .int (nI tp), .int (nI at_), .int (nI be), .int (nI sz), .int w9, .int w10, .int w11, .int w12, .int w13, .int w14, .ref g15, .int w16, .ref g17, .int w18, .int w19, .ref g20, .int w21, .ref g22, .ref g23, .ref g24, .int w25, .int w26, .int w27, .ref g28, .ref g29, .int w30, .ref g31, .ref g32, .ref g33]))] H locs := V
    show W p l e _ s m args below meth c H locs _ _ _ (F0 m 5 ls [.int (nI 0)])
    refine lv_if_ne (tgt := 10) hx hb dX8_eats_5 (by decide) (fun c => absurd (show (nI 0) = 0 by decide +kernel) c) (fun _ => ?_)
    refine lv_iconst (v := (nI 0)) hx hb dX8_eats_8 (by decide +kernel) ?_
    have V := V.sub (ws' := [(o, .inr (8, [.int w0, .ref g1, .ref g2, .ref g3, .ref g4, .int (nI tp), .int (nI at_), .int (nI be), .int (nI sz), .int w9, .int w10, .int w11, .int w12, .int w13, .int w14, .ref g15, .int w16, .ref g17, .int w18, .int w19, .ref g20, .int w21, .ref g22, .ref g23, .ref g24, .int w25, .int w26, .int w27, .ref g28, .ref g29, .int w30, .ref g31, .ref g32, .ref g33])), (g3, .inl (T 0, 900, .inl ft))]) [1, 0] rfl rfl
    exact g_zret (Qr := (q_m_eats T o k w0 g1 g2 g3 g4 tp at_ be sz w9 w10 w11 w12 w13 w14 g15 w16 g17 w18 w19 g20 w21 g22 g23 g24 w25 w26 w27 g28 g29 w30 g31 g32 g33 ft)) hC V ⟨(Nat.le_of_ble_eq_true rfl), (Nat.le_of_ble_eq_true rfl)⟩ (by first | decide +kernel | exact rfl) (.inr ⟨rfl, rfl⟩) dX8_eats_9

def q_m_takes (T : Nat → ClassId) (o : Nat) (lo : Int32) (hi : Int32) (w0 : Int32) (g1 : Nat) (g2 : Nat) (g3 : Nat) (g4 : Nat) (tp : Nat) (at_ : Nat) (be : Nat) (sz : Nat) (w9 : Int32) (w10 : Int32) (w11 : Int32) (w12 : Int32) (w13 : Int32) (w14 : Int32) (g15 : Nat) (w16 : Int32) (g17 : Nat) (w18 : Int32) (w19 : Int32) (g20 : Nat) (w21 : Int32) (g22 : Nat) (g23 : Nat) (g24 : Nat) (w25 : Int32) (w26 : Int32) (w27 : Int32) (g28 : Nat) (g29 : Nat) (w30 : Int32) (g31 : Nat) (g32 : Nat) (g33 : Nat) (ft : Nat → Int32) : Option Value → va_W → Prop := fun rr ww => (∃ (z : Int32) (a2 : Nat) (b2 : Nat) (k2 : Int32) (n2 : Int32) (u2 : Int32) (l2 : Int32), rr = some (.int z) ∧ ww = [(o, .inr (8, [.int w0, .ref g1, .ref g2, .ref g3, .ref g4, .int (nI tp), .int (nI a2), .int (nI b2), .int (nI sz), .int k2, .int n2, .int u2, .int l2, .int w13, .int w14, .ref g15, .int w16, .ref g17, .int w18, .int w19, .ref g20, .int w21, .ref g22, .ref g23, .ref g24, .int w25, .int w26, .int w27, .ref g28, .ref g29, .int w30, .ref g31, .ref g32, .ref g33])), (g3, .inl (T 0, 900, .inl ft))] ∧ (u2 = 0 → w11 = 0) ∧ (a2 ≤ b2 ∧ b2 ≤ sz) ∧ (u2 = 0 → ¬ z < lo ∧ ¬ hi < z) ∧ be ≤ b2)
set_option maxHeartbeats 4000000 in
set_option maxRecDepth 100000 in
theorem m_takes (l : Launch) (D : va_G) (T : Nat → ClassId) (o : Nat) (lo : Int32) (hi : Int32) (w0 : Int32) (g1 : Nat) (g2 : Nat) (g3 : Nat) (g4 : Nat) (tp : Nat) (at_ : Nat) (be : Nat) (sz : Nat) (w9 : Int32) (w10 : Int32) (w11 : Int32) (w12 : Int32) (w13 : Int32) (w14 : Int32) (g15 : Nat) (w16 : Int32) (g17 : Nat) (w18 : Int32) (w19 : Int32) (g20 : Nat) (w21 : Int32) (g22 : Nat) (g23 : Nat) (g24 : Nat) (w25 : Int32) (w26 : Int32) (w27 : Int32) (g28 : Nat) (g29 : Nat) (w30 : Int32) (g31 : Nat) (g32 : Nat) (g33 : Nat) (ft : Nat → Int32) (h_sz : sz ≤ 900) (h_ab : at_ ≤ be ∧ be ≤ sz) : Ct l yX8_takes cX8_takes 4 (some .int) 6 0 0 D T [.ref o, .int lo, .int hi] [(o, .inr (8, [.int w0, .ref g1, .ref g2, .ref g3, .ref g4, .int (nI tp), .int (nI at_), .int (nI be), .int (nI sz), .int w9, .int w10, .int w11, .int w12, .int w13, .int w14, .ref g15, .int w16, .ref g17, .int w18, .int w19, .ref g20, .int w21, .ref g22, .ref g23, .ref g24, .int w25, .int w26, .int w27, .ref g28, .ref g29, .int w30, .ref g31, .ref g32, .ref g33])), (g3, .inl (T 0, 900, .inl ft))] (q_m_takes T o lo hi w0 g1 g2 g3 g4 tp at_ be sz w9 w10 w11 w12 w13 w14 g15 w16 g17 w18 w19 g20 w21 g22 g23 g24 w25 w26 w27 g28 g29 w30 g31 g32 g33 ft) := by
  refine Ct.of (cc := cX8_takes) (maxL := 4) (ret := (some .int)) (by decide) (Nat.le_of_ble_eq_true rfl) ?_
  intro p e s m args below meth c A ls hC hnm V hl
  obtain ⟨hx, hb, hr, hml, hown, hts, hlocks⟩ := id hC
  generalize hH : s.heap = H at V ⊢
  clear hH
  have hl : lv_has ls 4 [(0, .ref o), (1, .int lo), (2, .int hi)] := hl
  generalize hlo : ([] : List Loc) = locs at V ⊢
  clear hlo
  refine lv_aload_n hx hb dX8_takes_0 rfl (lv_at hl 0 rfl) ?_
  refine lv_bipush (v := (nI 9)) hx hb dX8_takes_1 (by decide +kernel) ?_
  refine g_callV (wr := [(g3, .inl (T 0, 900, .inl ft))]) (nA := 1) hC V hl.1 (m_is l D T o (nI 9) w0 g1 g2 g3 g4 tp at_ be (nI sz) w9 w10 w11 w12 w13 w14 g15 w16 g17 w18 w19 g20 w21 g22 g23 g24 w25 w26 w27 g28 g29 w30 g31 g32 g33) w_1047 w_1049 w_s39 w_9 w_1050 (by decide +kernel) rfl ⟨(Nat.le_of_ble_eq_true rfl), (Nat.le_of_ble_eq_true rfl)⟩ 0 (ci := 8) rfl rfl [0] [1] rfl rfl rfl rfl (by decide) (Nat.le_of_ble_eq_true rfl) dX8_takes_3 ⟨(Nat.le_of_ble_eq_true rfl), (Nat.le_of_ble_eq_true rfl)⟩ rfl (fun r w1 H locs hQ V => ?_)
  rcases hQ with ⟨rfl, rfl, f_1, f_2⟩ | ⟨rfl, rfl⟩
  · have V : gW D T A s [(g3, .inl (T 0, 900, .inl ft)), (o, .inr (8, [.int w0, .ref g1, .ref g2, .ref g3, .ref g4, .int (nI tp), .int (nI at_), .int (nI be), .int (nI sz), .int w9, .int w10, .int w11, .int w12, .int w13, .int w14, .ref g15, .int w16, .ref g17, .int w18, .int w19, .ref g20, .int w21, .ref g22, .ref g23, .ref g24, .int w25, .int w26, .int w27, .ref g28, .ref g29, .int w30, .ref g31, .ref g32, .ref g33]))] H locs := V
    show W p l e _ s m args below meth c H locs _ _ _ (F0 m 6 ls [.int (nI 1)])
    refine lv_if_ne (tgt := 17) hx hb dX8_takes_6 (by decide) (fun _ => ?_) (fun c => absurd (show (nI 1) = 0 from c) (by decide +kernel))
    refine lv_aload_n hx hb dX8_takes_17 rfl (lv_at hl 0 rfl) ?_
    refine g_get hC V (ci := 8) uwX8 1 rfl rfl 10 (by decide) w_922 rfl rfl dX8_takes_18 ?_
    refine lv_i2l (v := w10.toInt64) hx hb dX8_takes_21 rfl ?_
    refine lv_iload_n hx hb dX8_takes_22 rfl (lv_at hl 1 rfl) ?_
    refine lv_i2l (v := lo.toInt64) hx hb dX8_takes_23 rfl ?_
    refine lv_iload_n hx hb dX8_takes_24 rfl (lv_at hl 2 rfl) ?_
    refine lv_i2l (v := hi.toInt64) hx hb dX8_takes_25 rfl ?_
    refine g_callS (wr := [(g3, .inl (T 0, 900, .inl ft)), (o, .inr (8, [.int w0, .ref g1, .ref g2, .ref g3, .ref g4, .int (nI tp), .int (nI at_), .int (nI be), .int (nI sz), .int w9, .int w10, .int w11, .int w12, .int w13, .int w14, .ref g15, .int w16, .ref g17, .int w18, .int w19, .ref g20, .int w21, .ref g22, .ref g23, .ref g24, .int w25, .int w26, .int w27, .ref g28, .ref g29, .int w30, .ref g31, .ref g32, .ref g33]))]) (nA := 3) hC V hl.1 (m_within l D T w10 lo hi) w_1023 w_1024 w_9 w_1025 (by decide +kernel) rfl ⟨(Nat.le_of_ble_eq_true rfl), (Nat.le_of_ble_eq_true rfl)⟩ [] [0, 1] rfl rfl rfl rfl (by decide) (Nat.le_of_ble_eq_true rfl) dX8_takes_26 ⟨(Nat.le_of_ble_eq_true rfl), (Nat.le_of_ble_eq_true rfl)⟩ rfl (fun r w1 H locs hQ V => ?_)
    rcases hQ with ⟨rfl, rfl, f_3, f_4⟩ | ⟨rfl, rfl, f_5⟩
    · have V : gW D T A s [(g3, .inl (T 0, 900, .inl ft)), (o, .inr (8, [.int w0, .ref g1, .ref g2, .ref g3, .ref g4, .int (nI tp), .int (nI at_), .int (nI be), .int (nI sz), .int w9, .int w10, .int w11, .int w12, .int w13, .int w14, .ref g15, .int w16, .ref g17, .int w18, .int w19, .ref g20, .int w21, .ref g22, .ref g23, .ref g24, .int w25, .int w26, .int w27, .ref g28, .ref g29, .int w30, .ref g31, .ref g32, .ref g33]))] H locs := V
      show W p l e _ s m args below meth c H locs _ _ _ (F0 m 29 ls [.int (nI 1)])
      refine lv_if_ne (tgt := 37) hx hb dX8_takes_29 (by decide) (fun _ => ?_) (fun c => absurd (show (nI 1) = 0 from c) (by decide +kernel))
      refine lv_aload_n hx hb dX8_takes_37 rfl (lv_at hl 0 rfl) ?_
      refine g_get hC V (ci := 8) uwX8 1 rfl rfl 10 (by decide) w_922 rfl rfl dX8_takes_38 ?_
      refine lv_istore_n (lv' := [(3, .int w10), (0, .ref o), (1, .int lo), (2, .int hi)]) hx hb dX8_takes_41 rfl hl (by decide) rfl (fun ls hl => ?_)
      refine lv_aload_n hx hb dX8_takes_42 rfl (lv_at hl 1 rfl) ?_
      refine g_get hC V (ci := 8) uwX8 1 rfl rfl 11 (by decide) w_923 rfl rfl dX8_takes_43 ?_
      refine lv_if_ne (tgt := 53) hx hb dX8_takes_46 (by decide) (fun c_6 => ?_) (fun c_6 => ?_)
      · skip
        refine lv_iload_n hx hb dX8_takes_53 rfl (lv_at hl 0 rfl) ?_
        have V := V.sub (ws' := [(o, .inr (8, [.int w0, .ref g1, .ref g2, .ref g3, .ref g4, .int (nI tp), .int (nI at_), .int (nI be), .int (nI sz), .int w9, .int w10, .int w11, .int w12, .int w13, .int w14, .ref g15, .int w16, .ref g17, .int w18, .int w19, .ref g20, .int w21, .ref g22, .ref g23, .ref g24, .int w25, .int w26, .int w27, .ref g28, .ref g29, .int w30, .ref g31, .ref g32, .ref g33])), (g3, .inl (T 0, 900, .inl ft))]) [1, 0] rfl rfl
        exact g_iret (Qr := (q_m_takes T o lo hi w0 g1 g2 g3 g4 tp at_ be sz w9 w10 w11 w12 w13 w14 g15 w16 g17 w18 w19 g20 w21 g22 g23 g24 w25 w26 w27 g28 g29 w30 g31 g32 g33 ft)) hC V ⟨(Nat.le_of_ble_eq_true rfl), (Nat.le_of_ble_eq_true rfl)⟩ ⟨w10, at_, be, w9, w10, w11, w12, rfl, rfl, (fun _ => by assumption), (by omega), (fun _ => ⟨by assumption, by assumption⟩), (by omega)⟩ dX8_takes_54
      · skip
        refine lv_aload_n hx hb dX8_takes_49 rfl (lv_at hl 1 rfl) ?_
        refine g_callV (wr := []) (nA := 0) hC V hl.1 (m_next l D T o w0 g1 g2 g3 g4 tp (nI at_) be sz w9 w10 w11 w12 w13 w14 g15 w16 g17 w18 w19 g20 w21 g22 g23 g24 w25 w26 w27 g28 g29 w30 g31 g32 g33 ft (by first | assumption | omega) (by first | assumption | omega)) w_1026 w_1028 w_s36 w_9 w_1029 (by decide +kernel) rfl ⟨(Nat.le_of_ble_eq_true rfl), (Nat.le_of_ble_eq_true rfl)⟩ 1 (ci := 8) rfl rfl [1, 0] [] rfl rfl rfl rfl (by decide) (Nat.le_of_ble_eq_true rfl) dX8_takes_50 ⟨(Nat.le_of_ble_eq_true rfl), (Nat.le_of_ble_eq_true rfl)⟩ rfl (fun r w1 H locs hQ V => ?_)
        obtain ⟨a2_7, b2_8, k2_9, n2_10, rfl, rfl, f_11, f_12, f_13⟩ := hQ
        have V : gW D T A s [(o, .inr (8, [.int w0, .ref g1, .ref g2, .ref g3, .ref g4, .int (nI tp), .int (nI a2_7), .int (nI b2_8), .int (nI sz), .int k2_9, .int n2_10, .int w11, .int w12, .int w13, .int w14, .ref g15, .int w16, .ref g17, .int w18, .int w19, .ref g20, .int w21, .ref g22, .ref g23, .ref g24, .int w25, .int w26, .int w27, .ref g28, .ref g29, .int w30, .ref g31, .ref g32, .ref g33])), (g3, .inl (T 0, 900, .inl ft))] H locs := V
        show W p l e _ s m args below meth c H locs _ _ _ (F0 m 53 ls [])
        refine lv_iload_n hx hb dX8_takes_53 rfl (lv_at hl 0 rfl) ?_
        exact g_iret (Qr := (q_m_takes T o lo hi w0 g1 g2 g3 g4 tp at_ be sz w9 w10 w11 w12 w13 w14 g15 w16 g17 w18 w19 g20 w21 g22 g23 g24 w25 w26 w27 g28 g29 w30 g31 g32 g33 ft)) hC V ⟨(Nat.le_of_ble_eq_true rfl), (Nat.le_of_ble_eq_true rfl)⟩ ⟨w10, a2_7, b2_8, k2_9, n2_10, w11, w12, rfl, rfl, (fun _ => by assumption), (by omega), (fun _ => ⟨by assumption, by assumption⟩), (by omega)⟩ dX8_takes_54
    · have V : gW D T A s [(g3, .inl (T 0, 900, .inl ft)), (o, .inr (8, [.int w0, .ref g1, .ref g2, .ref g3, .ref g4, .int (nI tp), .int (nI at_), .int (nI be), .int (nI sz), .int w9, .int w10, .int w11, .int w12, .int w13, .int w14, .ref g15, .int w16, .ref g17, .int w18, .int w19, .ref g20, .int w21, .ref g22, .ref g23, .ref g24, .int w25, .int w26, .int w27, .ref g28, .ref g29, .int w30, .ref g31, .ref g32, .ref g33]))] H locs := V
      show W p l e _ s m args below meth c H locs _ _ _ (F0 m 29 ls [.int (nI 0)])
      refine lv_if_ne (tgt := 37) hx hb dX8_takes_29 (by decide) (fun c => absurd (show (nI 0) = 0 by decide +kernel) c) (fun _ => ?_)
      refine lv_aload_n hx hb dX8_takes_32 rfl (lv_at hl 0 rfl) ?_
      refine lv_iconst (v := (nI 3)) hx hb dX8_takes_33 (by decide +kernel) ?_
      refine g_callV (wr := [(g3, .inl (T 0, 900, .inl ft))]) (nA := 1) hC V hl.1 (m_fails l D T o (nI 3) w0 g1 g2 g3 g4 tp at_ be (nI sz) w9 w10 w11 w12 w13 w14 g15 w16 g17 w18 w19 g20 w21 g22 g23 g24 w25 w26 w27 g28 g29 w30 g31 g32 g33 (by decide +kernel)) w_1055 w_1057 w_s41 w_9 w_1058 (by decide +kernel) rfl ⟨(Nat.le_of_ble_eq_true rfl), (Nat.le_of_ble_eq_true rfl)⟩ 1 (ci := 8) rfl rfl [1] [0] rfl rfl rfl rfl (by decide) (Nat.le_of_ble_eq_true rfl) dX8_takes_34 ⟨(Nat.le_of_ble_eq_true rfl), (Nat.le_of_ble_eq_true rfl)⟩ rfl (fun r w1 H locs hQ V => ?_)
      obtain ⟨u2_14, l2_15, rfl, rfl, f_16⟩ := hQ
      have V : gW D T A s [(g3, .inl (T 0, 900, .inl ft)), (o, .inr (8, [.int w0, .ref g1, .ref g2, .ref g3, .ref g4, .int (nI tp), .int (nI at_), .int (nI be), .int (nI sz), .int w9, .int w10, .int u2_14, .int l2_15, .int w13, .int w14, .ref g15, .int w16, .ref g17, .int w18, .int w19, .ref g20, .int w21, .ref g22, .ref g23, .ref g24, .int w25, .int w26, .int w27, .ref g28, .ref g29, .int w30, .ref g31, .ref g32, .ref g33]))] H locs := V
      show W p l e _ s m args below meth c H locs _ _ _ (F0 m 37 ls [])
      refine lv_aload_n hx hb dX8_takes_37 rfl (lv_at hl 0 rfl) ?_
      refine g_get hC V (ci := 8) uwX8 1 rfl rfl 10 (by decide) w_922 rfl rfl dX8_takes_38 ?_
      refine lv_istore_n (lv' := [(3, .int w10), (0, .ref o), (1, .int lo), (2, .int hi)]) hx hb dX8_takes_41 rfl hl (by decide) rfl (fun ls hl => ?_)
      refine lv_aload_n hx hb dX8_takes_42 rfl (lv_at hl 1 rfl) ?_
      refine g_get hC V (ci := 8) uwX8 1 rfl rfl 11 (by decide) w_923 rfl rfl dX8_takes_43 ?_
      refine lv_if_ne (tgt := 53) hx hb dX8_takes_46 (by decide) (fun c_17 => ?_) (fun c_17 => ?_)
      · skip
        refine lv_iload_n hx hb dX8_takes_53 rfl (lv_at hl 0 rfl) ?_
        have V := V.sub (ws' := [(o, .inr (8, [.int w0, .ref g1, .ref g2, .ref g3, .ref g4, .int (nI tp), .int (nI at_), .int (nI be), .int (nI sz), .int w9, .int w10, .int u2_14, .int l2_15, .int w13, .int w14, .ref g15, .int w16, .ref g17, .int w18, .int w19, .ref g20, .int w21, .ref g22, .ref g23, .ref g24, .int w25, .int w26, .int w27, .ref g28, .ref g29, .int w30, .ref g31, .ref g32, .ref g33])), (g3, .inl (T 0, 900, .inl ft))]) [1, 0] rfl rfl
        exact g_iret (Qr := (q_m_takes T o lo hi w0 g1 g2 g3 g4 tp at_ be sz w9 w10 w11 w12 w13 w14 g15 w16 g17 w18 w19 g20 w21 g22 g23 g24 w25 w26 w27 g28 g29 w30 g31 g32 g33 ft)) hC V ⟨(Nat.le_of_ble_eq_true rfl), (Nat.le_of_ble_eq_true rfl)⟩ ⟨w10, at_, be, w9, w10, u2_14, l2_15, rfl, rfl, (fun h => absurd h (by assumption)), (by omega), (fun h => absurd h (by assumption)), (by omega)⟩ dX8_takes_54
      · skip
        exact absurd c_17 (by assumption)
  · have V : gW D T A s [(g3, .inl (T 0, 900, .inl ft)), (o, .inr (8, [.int w0, .ref g1, .ref g2, .ref g3, .ref g4, .int (nI tp), .int (nI at_), .int (nI be), .int (nI sz), .int w9, .int w10, .int w11, .int w12, .int w13, .int w14, .ref g15, .int w16, .ref g17, .int w18, .int w19, .ref g20, .int w21, .ref g22, .ref g23, .ref g24, .int w25, .int w26, .int w27, .ref g28, .ref g29, .int w30, .ref g31, .ref g32, .ref g33]))] H locs := V
    show W p l e _ s m args below meth c H locs _ _ _ (F0 m 6 ls [.int (nI 0)])
    refine lv_if_ne (tgt := 17) hx hb dX8_takes_6 (by decide) (fun c => absurd (show (nI 0) = 0 by decide +kernel) c) (fun _ => ?_)
    refine lv_aload_n hx hb dX8_takes_9 rfl (lv_at hl 0 rfl) ?_
    refine lv_iconst (v := (nI 2)) hx hb dX8_takes_10 (by decide +kernel) ?_
    refine g_callV (wr := [(g3, .inl (T 0, 900, .inl ft))]) (nA := 1) hC V hl.1 (m_fails l D T o (nI 2) w0 g1 g2 g3 g4 tp at_ be (nI sz) w9 w10 w11 w12 w13 w14 g15 w16 g17 w18 w19 g20 w21 g22 g23 g24 w25 w26 w27 g28 g29 w30 g31 g32 g33 (by decide +kernel)) w_1055 w_1057 w_s41 w_9 w_1058 (by decide +kernel) rfl ⟨(Nat.le_of_ble_eq_true rfl), (Nat.le_of_ble_eq_true rfl)⟩ 1 (ci := 8) rfl rfl [1] [0] rfl rfl rfl rfl (by decide) (Nat.le_of_ble_eq_true rfl) dX8_takes_11 ⟨(Nat.le_of_ble_eq_true rfl), (Nat.le_of_ble_eq_true rfl)⟩ rfl (fun r w1 H locs hQ V => ?_)
    obtain ⟨u2_18, l2_19, rfl, rfl, f_20⟩ := hQ
    have V : gW D T A s [(g3, .inl (T 0, 900, .inl ft)), (o, .inr (8, [.int w0, .ref g1, .ref g2, .ref g3, .ref g4, .int (nI tp), .int (nI at_), .int (nI be), .int (nI sz), .int w9, .int w10, .int u2_18, .int l2_19, .int w13, .int w14, .ref g15, .int w16, .ref g17, .int w18, .int w19, .ref g20, .int w21, .ref g22, .ref g23, .ref g24, .int w25, .int w26, .int w27, .ref g28, .ref g29, .int w30, .ref g31, .ref g32, .ref g33]))] H locs := V
    show W p l e _ s m args below meth c H locs _ _ _ (F0 m 14 ls [])
    refine lv_goto (tgt := 37) hx hb dX8_takes_14 (by decide) ?_
    refine lv_aload_n hx hb dX8_takes_37 rfl (lv_at hl 0 rfl) ?_
    refine g_get hC V (ci := 8) uwX8 1 rfl rfl 10 (by decide) w_922 rfl rfl dX8_takes_38 ?_
    refine lv_istore_n (lv' := [(3, .int w10), (0, .ref o), (1, .int lo), (2, .int hi)]) hx hb dX8_takes_41 rfl hl (by decide) rfl (fun ls hl => ?_)
    refine lv_aload_n hx hb dX8_takes_42 rfl (lv_at hl 1 rfl) ?_
    refine g_get hC V (ci := 8) uwX8 1 rfl rfl 11 (by decide) w_923 rfl rfl dX8_takes_43 ?_
    refine lv_if_ne (tgt := 53) hx hb dX8_takes_46 (by decide) (fun c_21 => ?_) (fun c_21 => ?_)
    · skip
      refine lv_iload_n hx hb dX8_takes_53 rfl (lv_at hl 0 rfl) ?_
      have V := V.sub (ws' := [(o, .inr (8, [.int w0, .ref g1, .ref g2, .ref g3, .ref g4, .int (nI tp), .int (nI at_), .int (nI be), .int (nI sz), .int w9, .int w10, .int u2_18, .int l2_19, .int w13, .int w14, .ref g15, .int w16, .ref g17, .int w18, .int w19, .ref g20, .int w21, .ref g22, .ref g23, .ref g24, .int w25, .int w26, .int w27, .ref g28, .ref g29, .int w30, .ref g31, .ref g32, .ref g33])), (g3, .inl (T 0, 900, .inl ft))]) [1, 0] rfl rfl
      exact g_iret (Qr := (q_m_takes T o lo hi w0 g1 g2 g3 g4 tp at_ be sz w9 w10 w11 w12 w13 w14 g15 w16 g17 w18 w19 g20 w21 g22 g23 g24 w25 w26 w27 g28 g29 w30 g31 g32 g33 ft)) hC V ⟨(Nat.le_of_ble_eq_true rfl), (Nat.le_of_ble_eq_true rfl)⟩ ⟨w10, at_, be, w9, w10, u2_18, l2_19, rfl, rfl, (fun h => absurd h (by assumption)), (by omega), (fun h => absurd h (by assumption)), (by omega)⟩ dX8_takes_54
    · skip
      exact absurd c_21 (by assumption)

def q_m_takesIf (T : Nat → ClassId) (o : Nat) (ky : Int32) (lo : Int32) (hi : Int32) (wo : Int32) (w0 : Int32) (g1 : Nat) (g2 : Nat) (g3 : Nat) (g4 : Nat) (tp : Nat) (at_ : Nat) (be : Nat) (sz : Nat) (w9 : Int32) (w10 : Int32) (w11 : Int32) (w12 : Int32) (w13 : Int32) (w14 : Int32) (g15 : Nat) (w16 : Int32) (g17 : Nat) (w18 : Int32) (w19 : Int32) (g20 : Nat) (w21 : Int32) (g22 : Nat) (g23 : Nat) (g24 : Nat) (w25 : Int32) (w26 : Int32) (w27 : Int32) (g28 : Nat) (g29 : Nat) (w30 : Int32) (g31 : Nat) (g32 : Nat) (g33 : Nat) (ft : Nat → Int32) : Option Value → va_W → Prop := fun rr ww => (∃ (z : Int32) (a2 : Nat) (b2 : Nat) (k2 : Int32) (n2 : Int32) (u2 : Int32) (l2 : Int32), rr = some (.int z) ∧ ww = [(o, .inr (8, [.int w0, .ref g1, .ref g2, .ref g3, .ref g4, .int (nI tp), .int (nI a2), .int (nI b2), .int (nI sz), .int k2, .int n2, .int u2, .int l2, .int w13, .int w14, .ref g15, .int w16, .ref g17, .int w18, .int w19, .ref g20, .int w21, .ref g22, .ref g23, .ref g24, .int w25, .int w26, .int w27, .ref g28, .ref g29, .int w30, .ref g31, .ref g32, .ref g33])), (g3, .inl (T 0, 900, .inl ft))] ∧ (u2 = 0 → w11 = 0) ∧ (a2 ≤ b2 ∧ b2 ≤ sz) ∧ (u2 = 0 → (¬ z < lo ∧ ¬ hi < z) ∨ z = wo) ∧ be ≤ b2)
set_option maxHeartbeats 4000000 in
set_option maxRecDepth 100000 in
theorem m_takesIf (l : Launch) (D : va_G) (T : Nat → ClassId) (o : Nat) (ky : Int32) (lo : Int32) (hi : Int32) (wo : Int32) (w0 : Int32) (g1 : Nat) (g2 : Nat) (g3 : Nat) (g4 : Nat) (tp : Nat) (at_ : Nat) (be : Nat) (sz : Nat) (w9 : Int32) (w10 : Int32) (w11 : Int32) (w12 : Int32) (w13 : Int32) (w14 : Int32) (g15 : Nat) (w16 : Int32) (g17 : Nat) (w18 : Int32) (w19 : Int32) (g20 : Nat) (w21 : Int32) (g22 : Nat) (g23 : Nat) (g24 : Nat) (w25 : Int32) (w26 : Int32) (w27 : Int32) (g28 : Nat) (g29 : Nat) (w30 : Int32) (g31 : Nat) (g32 : Nat) (g33 : Nat) (ft : Nat → Int32) (h_sz : sz ≤ 900) (h_ab : at_ ≤ be ∧ be ≤ sz) : Ct l yX8_takesIf cX8_takesIf 5 (some .int) 7 0 0 D T [.ref o, .int ky, .int lo, .int hi, .int wo] [(o, .inr (8, [.int w0, .ref g1, .ref g2, .ref g3, .ref g4, .int (nI tp), .int (nI at_), .int (nI be), .int (nI sz), .int w9, .int w10, .int w11, .int w12, .int w13, .int w14, .ref g15, .int w16, .ref g17, .int w18, .int w19, .ref g20, .int w21, .ref g22, .ref g23, .ref g24, .int w25, .int w26, .int w27, .ref g28, .ref g29, .int w30, .ref g31, .ref g32, .ref g33])), (g3, .inl (T 0, 900, .inl ft))] (q_m_takesIf T o ky lo hi wo w0 g1 g2 g3 g4 tp at_ be sz w9 w10 w11 w12 w13 w14 g15 w16 g17 w18 w19 g20 w21 g22 g23 g24 w25 w26 w27 g28 g29 w30 g31 g32 g33 ft) := by
  refine Ct.of (cc := cX8_takesIf) (maxL := 5) (ret := (some .int)) (by decide) (Nat.le_of_ble_eq_true rfl) ?_
  intro p e s m args below meth c A ls hC hnm V hl
  obtain ⟨hx, hb, hr, hml, hown, hts, hlocks⟩ := id hC
  generalize hH : s.heap = H at V ⊢
  clear hH
  have hl : lv_has ls 5 [(0, .ref o), (1, .int ky), (2, .int lo), (3, .int hi), (4, .int wo)] := hl
  generalize hlo : ([] : List Loc) = locs at V ⊢
  clear hlo
  refine lv_aload_n hx hb dX8_takesIf_0 rfl (lv_at hl 0 rfl) ?_
  refine lv_iload_n hx hb dX8_takesIf_1 rfl (lv_at hl 1 rfl) ?_
  refine g_callV (wr := []) (nA := 1) hC V hl.1 (m_eats l D T o ky w0 g1 g2 g3 g4 tp at_ be sz w9 w10 w11 w12 w13 w14 g15 w16 g17 w18 w19 g20 w21 g22 g23 g24 w25 w26 w27 g28 g29 w30 g31 g32 g33 ft (by first | assumption | omega) (by first | assumption | omega)) w_1067 w_1069 w_s44 w_9 w_1070 (by decide +kernel) rfl ⟨(Nat.le_of_ble_eq_true rfl), (Nat.le_of_ble_eq_true rfl)⟩ 0 (ci := 8) rfl rfl [0, 1] [] rfl rfl rfl rfl (by decide) (Nat.le_of_ble_eq_true rfl) dX8_takesIf_2 ⟨(Nat.le_of_ble_eq_true rfl), (Nat.le_of_ble_eq_true rfl)⟩ rfl (fun r w1 H locs hQ V => ?_)
  rcases hQ with ⟨a2_1, b2_2, k2_3, n2_4, rfl, rfl, f_5, f_6, f_7, f_8, f_9⟩ | ⟨rfl, rfl⟩
  · have V : gW D T A s [(o, .inr (8, [.int w0, .ref g1, .ref g2, .ref g3, .ref g4, .int (nI tp), .int (nI a2_1), .int (nI b2_2), .int (nI sz), .int k2_3, .int n2_4, .int w11, .int w12, .int w13, .int w14, .ref g15, .int w16, .ref g17, .int w18, .int w19, .ref g20, .int w21, .ref g22, .ref g23, .ref g24, .int w25, .int w26, .int w27, .ref g28, .ref g29, .int w30, .ref g31, .ref g32, .ref g33])), (g3, .inl (T 0, 900, .inl ft))] H locs := V
    show W p l e _ s m args below meth c H locs _ _ _ (F0 m 5 ls [.int (nI 1)])
    refine lv_if_eq (tgt := 17) hx hb dX8_takesIf_5 (by decide) (fun c => absurd (show (nI 1) = 0 from c) (by decide +kernel)) (fun _ => ?_)
    refine lv_aload_n hx hb dX8_takesIf_8 rfl (lv_at hl 0 rfl) ?_
    refine lv_iload_n hx hb dX8_takesIf_9 rfl (lv_at hl 2 rfl) ?_
    refine lv_iload_n hx hb dX8_takesIf_10 rfl (lv_at hl 3 rfl) ?_
    refine g_callV (wr := []) (nA := 2) hC V hl.1 (m_takes l D T o lo hi w0 g1 g2 g3 g4 tp a2_1 b2_2 sz k2_3 n2_4 w11 w12 w13 w14 g15 w16 g17 w18 w19 g20 w21 g22 g23 g24 w25 w26 w27 g28 g29 w30 g31 g32 g33 ft (by first | assumption | omega) (by first | assumption | omega)) w_1059 w_1061 w_s42 w_9 w_1062 (by decide +kernel) rfl ⟨(Nat.le_of_ble_eq_true rfl), (Nat.le_of_ble_eq_true rfl)⟩ 0 (ci := 8) rfl rfl [0, 1] [] rfl rfl rfl rfl (by decide) (Nat.le_of_ble_eq_true rfl) dX8_takesIf_11 ⟨(Nat.le_of_ble_eq_true rfl), (Nat.le_of_ble_eq_true rfl)⟩ rfl (fun r w1 H locs hQ V => ?_)
    obtain ⟨z_10, a2_11, b2_12, k2_13, n2_14, u2_15, l2_16, rfl, rfl, f_17, f_18, f_19, f_20⟩ := hQ
    have V : gW D T A s [(o, .inr (8, [.int w0, .ref g1, .ref g2, .ref g3, .ref g4, .int (nI tp), .int (nI a2_11), .int (nI b2_12), .int (nI sz), .int k2_13, .int n2_14, .int u2_15, .int l2_16, .int w13, .int w14, .ref g15, .int w16, .ref g17, .int w18, .int w19, .ref g20, .int w21, .ref g22, .ref g23, .ref g24, .int w25, .int w26, .int w27, .ref g28, .ref g29, .int w30, .ref g31, .ref g32, .ref g33])), (g3, .inl (T 0, 900, .inl ft))] H locs := V
    show W p l e _ s m args below meth c H locs _ _ _ (F0 m 14 ls [.int z_10])
    refine lv_goto (tgt := 19) hx hb dX8_takesIf_14 (by decide) ?_
    exact g_iret (Qr := (q_m_takesIf T o ky lo hi wo w0 g1 g2 g3 g4 tp at_ be sz w9 w10 w11 w12 w13 w14 g15 w16 g17 w18 w19 g20 w21 g22 g23 g24 w25 w26 w27 g28 g29 w30 g31 g32 g33 ft)) hC V ⟨(Nat.le_of_ble_eq_true rfl), (Nat.le_of_ble_eq_true rfl)⟩ ⟨z_10, a2_11, b2_12, k2_13, n2_14, u2_15, l2_16, rfl, rfl, (by assumption), (by omega), (fun h => Or.inl (f_19 h)), (by omega)⟩ dX8_takesIf_19
  · have V : gW D T A s [(o, .inr (8, [.int w0, .ref g1, .ref g2, .ref g3, .ref g4, .int (nI tp), .int (nI at_), .int (nI be), .int (nI sz), .int w9, .int w10, .int w11, .int w12, .int w13, .int w14, .ref g15, .int w16, .ref g17, .int w18, .int w19, .ref g20, .int w21, .ref g22, .ref g23, .ref g24, .int w25, .int w26, .int w27, .ref g28, .ref g29, .int w30, .ref g31, .ref g32, .ref g33])), (g3, .inl (T 0, 900, .inl ft))] H locs := V
    show W p l e _ s m args below meth c H locs _ _ _ (F0 m 5 ls [.int (nI 0)])
    refine lv_if_eq (tgt := 17) hx hb dX8_takesIf_5 (by decide) (fun _ => ?_) (fun c => absurd (show (nI 0) = 0 by decide +kernel) c)
    refine lv_iload hx hb dX8_takesIf_17 (lv_at hl 4 rfl) ?_
    exact g_iret (Qr := (q_m_takesIf T o ky lo hi wo w0 g1 g2 g3 g4 tp at_ be sz w9 w10 w11 w12 w13 w14 g15 w16 g17 w18 w19 g20 w21 g22 g23 g24 w25 w26 w27 g28 g29 w30 g31 g32 g33 ft)) hC V ⟨(Nat.le_of_ble_eq_true rfl), (Nat.le_of_ble_eq_true rfl)⟩ ⟨wo, at_, be, w9, w10, w11, w12, rfl, rfl, id, (by omega), (fun _ => Or.inr rfl), (by omega)⟩ dX8_takesIf_19
