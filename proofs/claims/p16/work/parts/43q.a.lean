/-- what fault answers -/
def faultA (u l w : Int32) : Int32 := if w = nI 0 then u else if w = nI 1 then l else -1
theorem ft_0 {u l w : Int32} (h : w = nI 0) : u = faultA u l w := by unfold faultA; rw [if_pos h]
theorem ft_1 {u l w : Int32} (h0 : ¬ w = nI 0) (h : w = nI 1) : l = faultA u l w := by unfold faultA; rw [if_neg h0, if_pos h]
theorem ft_2 {u l w : Int32} (h0 : ¬ w = nI 0) (h : ¬ w = nI 1) : -1 = faultA u l w := by unfold faultA; rw [if_neg h0, if_neg h]
theorem rs_o {i a b : Int32} (h : i < 0 ∨ nI 2 ≤ i) : -2 = resWhy i a b := by unfold resWhy; rw [if_pos h]
theorem rs_in {i : Int32} {k : Nat} (h : i = nI k) (hk : k < 2) : ¬ (i < 0 ∨ nI 2 ≤ i) := by
  subst h
  rintro (h | h)
  · exact absurd h (nI_pos (by omega))
  · exact absurd (b_le (by decide) (by omega) h) (by omega)
theorem rs_5a {i a b : Int32} (e : i = nI 0) (h : a = 0) : -5 = resWhy i a b := by unfold resWhy; rw [if_neg (rs_in e (by decide)), if_pos (Or.inl ⟨e, h⟩)]
theorem rs_5b {i a b : Int32} (e : i = nI 1) (h : b = 0) : -5 = resWhy i a b := by unfold resWhy; rw [if_neg (rs_in e (by decide)), if_pos (Or.inr ⟨e, h⟩)]
theorem rs_01 : ¬ (nI 0 : Int32) = nI 1 := by decide +kernel
theorem rs_0a {i a b : Int32} (e : i = nI 0) (h : ¬ a = 0) : nI 0 = resWhy i a b := by unfold resWhy; rw [if_neg (rs_in e (by decide)), if_neg (fun q => q.elim (fun r => h r.2) (fun r => rs_01 (e.symm.trans r.1)))]
theorem rs_0b {i a b : Int32} (e : i = nI 1) (h : ¬ b = 0) : nI 0 = resWhy i a b := by unfold resWhy; rw [if_neg (rs_in e (by decide)), if_neg (fun q => q.elim (fun r => rs_01 (r.1.symm.trans e)) (fun r => h r.2))]
/-- which images are made behind image(i) -/
def imZ (i : Int32) (f : Nat → Int32) : Nat → Int32 := if i = nI 0 then upd f 0 (vp_nar .boolean (nI 1)) else if i = nI 1 then upd f 1 (vp_nar .boolean (nI 1)) else f
theorem iz_o {i : Int32} {f : Nat → Int32} (h : i < 0 ∨ nI 2 ≤ i) : f = imZ i f := by unfold imZ; rw [if_neg (fun e => rs_in e (by decide) h), if_neg (fun e => rs_in e (by decide) h)]
theorem iz_0 {i : Int32} {f : Nat → Int32} (e : i = nI 0) : upd f 0 (vp_nar .boolean (nI 1)) = imZ i f := by unfold imZ; rw [if_pos e]
theorem iz_1 {i : Int32} {f : Nat → Int32} (e : i = nI 1) : upd f 1 (vp_nar .boolean (nI 1)) = imZ i f := by unfold imZ; rw [if_neg (fun q => rs_01 (q.symm.trans e)), if_pos e]
theorem iz_law {i : Int32} {f g f2 g2 : Nat → Int32} (h0 : f 0 = g 0) (h1 : f 1 = g 1) (e1 : f2 = imZ i f) (e2 : g2 = imZ i g) : f2 0 = g2 0 ∧ f2 1 = g2 1 := by
  rw [e1, e2]
  unfold imZ
  split
  · rw [up_same, up_same, up_other (by decide), up_other (by decide)]; exact ⟨rfl, h1⟩
  · split
    · rw [up_same, up_same, up_other (by decide), up_other (by decide)]; exact ⟨h0, rfl⟩
    · exact ⟨h0, h1⟩

def q_x_fault_f (T : Nat → ClassId) (o : Nat) (wh : Int32) (n0 : Nat) (s0 : Nat) (im : Nat) (iz : Nat) (rw : Nat) (t0 : Nat) (u0 : Nat) (h0 : Nat) (y0 : Nat) (sv : Value) (tf : Nat) (tu : Int32) (tl : Int32) (t1 : Nat) (te : Int32) (tk : Int32) (tr : Int32) (tb : Int32) : Option Value → va_W → Prop := fun rr ww => (∃ (z : Int32), rr = some (.int z) ∧ ww = [(o, .inr (7, [.ref n0, .ref s0, .ref im, .ref iz, .ref rw, .ref t0, .ref u0, .ref h0, .ref y0, sv])), (t0, .inr (2, [.int (nI tf), .int tu, .int tl, .ref t1, .int te, .int tk, .int tr, .int tb]))] ∧ z = faultA tu tl wh)
set_option maxHeartbeats 4000000 in
set_option maxRecDepth 100000 in
theorem x_fault_f (l : Launch) (D : va_G) (T : Nat → ClassId) (o : Nat) (wh : Int32) (n0 : Nat) (s0 : Nat) (im : Nat) (iz : Nat) (rw : Nat) (t0 : Nat) (u0 : Nat) (h0 : Nat) (y0 : Nat) (sv : Value) (tf : Nat) (tu : Int32) (tl : Int32) (t1 : Nat) (te : Int32) (tk : Int32) (tr : Int32) (tb : Int32) : Ct l yX7_fault cX7_fault 2 (some .int) 0 0 0 D T [.ref o, .int wh] [(o, .inr (7, [.ref n0, .ref s0, .ref im, .ref iz, .ref rw, .ref t0, .ref u0, .ref h0, .ref y0, sv])), (t0, .inr (2, [.int (nI tf), .int tu, .int tl, .ref t1, .int te, .int tk, .int tr, .int tb]))] (q_x_fault_f T o wh n0 s0 im iz rw t0 u0 h0 y0 sv tf tu tl t1 te tk tr tb) := by
  refine Ct.of (cc := cX7_fault) (maxL := 2) (ret := (some .int)) (by decide) (Nat.le_of_ble_eq_true rfl) ?_
  intro p e s m args below meth c A ls hC hnm V hl
  obtain ⟨hx, hb, hr, hml, hown, hts, hlocks⟩ := id hC
  generalize hH : s.heap = H at V ⊢
  clear hH
  have hl : lv_has ls 2 [(0, .ref o), (1, .int wh)] := hl
  generalize hlo : ([] : List Loc) = locs at V ⊢
  clear hlo
  refine lv_iload_n hx hb dX7_fault_0 rfl (lv_at hl 1 rfl) ?_
  by_cases c_10 : wh = (nI 0)
  · skip
    refine lv_lookup (tgt := 28) (off := 27) hx hb dX7_fault_1 (by decide +kernel) (by rw [c_10]; decide +kernel) (by decide) ?_
    refine lv_aload_n hx hb dX7_fault_28 rfl (lv_at hl 0 rfl) ?_
    refine g_get hC V (ci := 7) uwX7 0 rfl rfl 5 (by decide) w_254 rfl rfl dX7_fault_29 ?_
    refine g_get hC V (ci := 2) uwX2 1 rfl rfl 1 (by decide) w_131 rfl rfl dX7_fault_32 ?_
    exact g_iret (Qr := (q_x_fault_f T o wh n0 s0 im iz rw t0 u0 h0 y0 sv tf tu tl t1 te tk tr tb)) hC V ⟨(Nat.le_of_ble_eq_true rfl), (Nat.le_of_ble_eq_true rfl)⟩ ⟨tu, rfl, rfl, (by first | exact ft_0 (by assumption) | exact ft_1 (by assumption) (by assumption) | exact ft_2 (by assumption) (by assumption))⟩ dX7_fault_35
  by_cases c_11 : wh = (nI 1)
  · skip
    refine lv_lookup (tgt := 36) (off := 35) hx hb dX7_fault_1 (by decide +kernel) (by rw [c_11]; decide +kernel) (by decide) ?_
    refine lv_aload_n hx hb dX7_fault_36 rfl (lv_at hl 0 rfl) ?_
    refine g_get hC V (ci := 7) uwX7 0 rfl rfl 5 (by decide) w_254 rfl rfl dX7_fault_37 ?_
    refine g_get hC V (ci := 2) uwX2 1 rfl rfl 2 (by decide) w_133 rfl rfl dX7_fault_40 ?_
    exact g_iret (Qr := (q_x_fault_f T o wh n0 s0 im iz rw t0 u0 h0 y0 sv tf tu tl t1 te tk tr tb)) hC V ⟨(Nat.le_of_ble_eq_true rfl), (Nat.le_of_ble_eq_true rfl)⟩ ⟨tl, rfl, rfl, (by first | exact ft_0 (by assumption) | exact ft_1 (by assumption) (by assumption) | exact ft_2 (by assumption) (by assumption))⟩ dX7_fault_43
  refine lv_lookup (tgt := 44) (off := 43) hx hb dX7_fault_1 (by decide +kernel) (by have h0 : ¬ (0 : Int) = (wh).toInt := fun h => c_10 (g_out2 h.symm (by decide +kernel)); have h1 : ¬ (1 : Int) = (wh).toInt := fun h => c_11 (g_out2 h.symm (by decide +kernel)); simp [Op.lookupswitch.offset, h0, h1]) (by decide) ?_
  refine lv_iconst (v := (-1)) hx hb dX7_fault_44 (by decide +kernel) ?_
  exact g_iret (Qr := (q_x_fault_f T o wh n0 s0 im iz rw t0 u0 h0 y0 sv tf tu tl t1 te tk tr tb)) hC V ⟨(Nat.le_of_ble_eq_true rfl), (Nat.le_of_ble_eq_true rfl)⟩ ⟨(-1), rfl, rfl, (by first | exact ft_0 (by assumption) | exact ft_1 (by assumption) (by assumption) | exact ft_2 (by assumption) (by assumption))⟩ dX7_fault_45

def q_m_fault_f (T : Nat → ClassId) (o : Nat) (wh : Int32) (w0 : Int32) (g1 : Nat) (g2 : Nat) (g3 : Nat) (g4 : Nat) (tp : Nat) (w6 : Int32) (w7 : Int32) (w8 : Int32) (w9 : Int32) (w10 : Int32) (w11 : Int32) (w12 : Int32) (w13 : Int32) (w14 : Int32) (g15 : Nat) (w16 : Int32) (g17 : Nat) (w18 : Int32) (w19 : Int32) (g20 : Nat) (w21 : Int32) (g22 : Nat) (g23 : Nat) (g24 : Nat) (w25 : Int32) (w26 : Int32) (w27 : Int32) (g28 : Nat) (g29 : Nat) (w30 : Int32) (g31 : Nat) (g32 : Nat) (g33 : Nat) : Option Value → va_W → Prop := fun rr ww => (∃ (z : Int32), rr = some (.int z) ∧ ww = [(o, .inr (8, [.int (nI 0), .ref g1, .ref g2, .ref g3, .ref g4, .int (nI tp), .int w6, .int w7, .int w8, .int w9, .int w10, .int w11, .int w12, .int w13, .int w14, .ref g15, .int w16, .ref g17, .int w18, .int w19, .ref g20, .int w21, .ref g22, .ref g23, .ref g24, .int w25, .int w26, .int w27, .ref g28, .ref g29, .int w30, .ref g31, .ref g32, .ref g33]))] ∧ z = faultA w13 w14 wh)
set_option maxHeartbeats 4000000 in
set_option maxRecDepth 100000 in
theorem m_fault_f (l : Launch) (D : va_G) (T : Nat → ClassId) (o : Nat) (wh : Int32) (w0 : Int32) (g1 : Nat) (g2 : Nat) (g3 : Nat) (g4 : Nat) (tp : Nat) (w6 : Int32) (w7 : Int32) (w8 : Int32) (w9 : Int32) (w10 : Int32) (w11 : Int32) (w12 : Int32) (w13 : Int32) (w14 : Int32) (g15 : Nat) (w16 : Int32) (g17 : Nat) (w18 : Int32) (w19 : Int32) (g20 : Nat) (w21 : Int32) (g22 : Nat) (g23 : Nat) (g24 : Nat) (w25 : Int32) (w26 : Int32) (w27 : Int32) (g28 : Nat) (g29 : Nat) (w30 : Int32) (g31 : Nat) (g32 : Nat) (g33 : Nat) : Ct l yX8_fault cX8_fault 2 (some .int) 0 0 0 D T [.ref o, .int wh] [(o, .inr (8, [.int w0, .ref g1, .ref g2, .ref g3, .ref g4, .int (nI tp), .int w6, .int w7, .int w8, .int w9, .int w10, .int w11, .int w12, .int w13, .int w14, .ref g15, .int w16, .ref g17, .int w18, .int w19, .ref g20, .int w21, .ref g22, .ref g23, .ref g24, .int w25, .int w26, .int w27, .ref g28, .ref g29, .int w30, .ref g31, .ref g32, .ref g33]))] (q_m_fault_f T o wh w0 g1 g2 g3 g4 tp w6 w7 w8 w9 w10 w11 w12 w13 w14 g15 w16 g17 w18 w19 g20 w21 g22 g23 g24 w25 w26 w27 g28 g29 w30 g31 g32 g33) := by
  refine Ct.of (cc := cX8_fault) (maxL := 2) (ret := (some .int)) (by decide) (Nat.le_of_ble_eq_true rfl) ?_
  intro p e s m args below meth c A ls hC hnm V hl
  obtain ⟨hx, hb, hr, hml, hown, hts, hlocks⟩ := id hC
  generalize hH : s.heap = H at V ⊢
  clear hH
  have hl : lv_has ls 2 [(0, .ref o), (1, .int wh)] := hl
  generalize hlo : ([] : List Loc) = locs at V ⊢
  clear hlo
  refine lv_aload_n hx hb dX8_fault_0 rfl (lv_at hl 0 rfl) ?_
  refine lv_iconst (v := (nI 0)) hx hb dX8_fault_1 (by decide +kernel) ?_
  refine g_put hC V (ci := 8) uwX8 tyX8 tyX8_ok nmX8 0 rfl rfl 0 (by decide) w_912 rfl rfl rfl rfl (Nat.le_of_ble_eq_true rfl) (ws' := [(o, .inr (8, [.int (nI 0), .ref g1, .ref g2, .ref g3, .ref g4, .int (nI tp), .int w6, .int w7, .int w8, .int w9, .int w10, .int w11, .int w12, .int w13, .int w14, .ref g15, .int w16, .ref g17, .int w18, .int w19, .ref g20, .int w21, .ref g22, .ref g23, .ref g24, .int w25, .int w26, .int w27, .ref g28, .ref g29, .int w30, .ref g31, .ref g32, .ref g33]))]) rfl dX8_fault_2 (fun H locs V => ?_)
  refine lv_iload_n hx hb dX8_fault_5 rfl (lv_at hl 1 rfl) ?_
  refine lv_if_ne (tgt := 16) hx hb dX8_fault_6 (by decide) (fun c_1 => ?_) (fun c_1 => ?_)
  · skip
    refine lv_iload_n hx hb dX8_fault_16 rfl (lv_at hl 1 rfl) ?_
    refine lv_iconst (v := (nI 1)) hx hb dX8_fault_17 (by decide +kernel) ?_
    refine lv_icmp_ne (tgt := 28) hx hb dX8_fault_18 (by decide) (fun c_2 => ?_) (fun c_2 => ?_)
    · skip
      refine lv_iconst (v := (-1)) hx hb dX8_fault_28 (by decide +kernel) ?_
      exact g_iret (Qr := (q_m_fault_f T o wh w0 g1 g2 g3 g4 tp w6 w7 w8 w9 w10 w11 w12 w13 w14 g15 w16 g17 w18 w19 g20 w21 g22 g23 g24 w25 w26 w27 g28 g29 w30 g31 g32 g33)) hC V ⟨(Nat.le_of_ble_eq_true rfl), (Nat.le_of_ble_eq_true rfl)⟩ ⟨(-1), rfl, rfl, (by first | exact ft_0 (by assumption) | exact ft_1 (by assumption) (by assumption) | exact ft_2 (by assumption) (by assumption))⟩ dX8_fault_29
    · skip
      refine lv_aload_n hx hb dX8_fault_21 rfl (lv_at hl 0 rfl) ?_
      refine g_get hC V (ci := 8) uwX8 0 rfl rfl 14 (by decide) w_926 rfl rfl dX8_fault_22 ?_
      refine lv_goto (tgt := 29) hx hb dX8_fault_25 (by decide) ?_
      exact g_iret (Qr := (q_m_fault_f T o wh w0 g1 g2 g3 g4 tp w6 w7 w8 w9 w10 w11 w12 w13 w14 g15 w16 g17 w18 w19 g20 w21 g22 g23 g24 w25 w26 w27 g28 g29 w30 g31 g32 g33)) hC V ⟨(Nat.le_of_ble_eq_true rfl), (Nat.le_of_ble_eq_true rfl)⟩ ⟨w14, rfl, rfl, (by first | exact ft_0 (by assumption) | exact ft_1 (by assumption) (by assumption) | exact ft_2 (by assumption) (by assumption))⟩ dX8_fault_29
  · skip
    refine lv_aload_n hx hb dX8_fault_9 rfl (lv_at hl 0 rfl) ?_
    refine g_get hC V (ci := 8) uwX8 0 rfl rfl 13 (by decide) w_925 rfl rfl dX8_fault_10 ?_
    refine lv_goto (tgt := 29) hx hb dX8_fault_13 (by decide) ?_
    exact g_iret (Qr := (q_m_fault_f T o wh w0 g1 g2 g3 g4 tp w6 w7 w8 w9 w10 w11 w12 w13 w14 g15 w16 g17 w18 w19 g20 w21 g22 g23 g24 w25 w26 w27 g28 g29 w30 g31 g32 g33)) hC V ⟨(Nat.le_of_ble_eq_true rfl), (Nat.le_of_ble_eq_true rfl)⟩ ⟨w13, rfl, rfl, (by first | exact ft_0 (by assumption) | exact ft_1 (by assumption) (by assumption) | exact ft_2 (by assumption) (by assumption))⟩ dX8_fault_29
