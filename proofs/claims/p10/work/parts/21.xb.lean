/-- why a row is refused: -2 there is no such row, -6 it isn't there -/
def rowWhy (row a b c d : Int32) : Int32 := if row < 0 ∨ nI 4 ≤ row then -2 else if row = nI 0 ∧ a = 0 ∨ row = nI 1 ∧ b = 0 ∨ row = nI 2 ∧ c = 0 ∨ row = nI 3 ∧ d = 0 then -6 else 0
theorem rw_out {row a b c d : Int32} (h : row < 0 ∨ nI 4 ≤ row) : -2 = rowWhy row a b c d := by simp [rowWhy, h]
theorem rw_in {row : Int32} {k : Nat} (h : row = nI k) (hk : k < 4) : ¬ (row < 0 ∨ nI 4 ≤ row) := by
  subst h
  rintro (h | h)
  · exact absurd h (nI_pos (by omega))
  · exact absurd (b_le (by decide) (by omega) h) (by omega)
theorem rw_0 {row a b c d : Int32} (h : row = nI 0) (h0 : a = 0) : -6 = rowWhy row a b c d := by rw [rowWhy, if_neg (rw_in h (by decide)), if_pos (Or.inl ⟨h, h0⟩)]
theorem rw_1 {row a b c d : Int32} (h : row = nI 1) (h0 : b = 0) : -6 = rowWhy row a b c d := by rw [rowWhy, if_neg (rw_in h (by decide)), if_pos (Or.inr (Or.inl ⟨h, h0⟩))]
theorem rw_2 {row a b c d : Int32} (h : row = nI 2) (h0 : c = 0) : -6 = rowWhy row a b c d := by rw [rowWhy, if_neg (rw_in h (by decide)), if_pos (Or.inr (Or.inr (Or.inl ⟨h, h0⟩)))]
theorem rw_3 {row a b c d : Int32} (h : row = nI 3) (h0 : d = 0) : -6 = rowWhy row a b c d := by rw [rowWhy, if_neg (rw_in h (by decide)), if_pos (Or.inr (Or.inr (Or.inr ⟨h, h0⟩)))]
theorem rw_ne {row : Int32} {a b : Nat} (h : row = nI a) (h2 : row = nI b) (h3 : ¬ nI a = nI b) : False := h3 (h.symm.trans h2)

def q_x_refusedRow (T : Nat → ClassId) (o : Nat) (row : Int32) (n0 : Nat) (s0 : Nat) (im : Nat) (iz : Nat) (rw : Nat) (t0 : Nat) (u0 : Nat) (h0 : Nat) (y0 : Nat) (sv : Value) (ra0 : Nat) (rb0 : Nat) (rc0 : Nat) (rd0 : Nat) (rah : Int32) (raz : Nat) (ra1 : Nat) (ras : Nat) (raf : Nat → Int64) (rbh : Int32) (rbz : Nat) (rb1 : Nat) (rbs : Nat) (rbf : Nat → Int64) (rch : Int32) (rcz : Nat) (rc1 : Nat) (rcs : Nat) (rcf : Nat → Int64) (rdh : Int32) (rdz : Nat) (rd1 : Nat) (rds : Nat) (rdf : Nat → Int64) : Option Value → va_W → Prop := fun rr ww => (rr = some (.int (nI 0)) ∧ ww = [(o, .inr (7, [.ref n0, .ref s0, .ref im, .ref iz, .ref rw, .ref t0, .ref u0, .ref h0, .ref y0, sv])), (rw, .inl (T 5, 4, .inr (.inr (.inr (.inr (va_up (va_up (va_up (va_up (fun _ => none) 0 (some ra0)) 1 (some rb0)) 2 (some rc0)) 3 (some rd0))))))), (ra0, .inr (1, [.int rah, .int (nI raz), .ref ra1, .int (nI ras)])), (ra1, .inl (T 1, 40, .inr (.inl raf))), (rb0, .inr (1, [.int rbh, .int (nI rbz), .ref rb1, .int (nI rbs)])), (rb1, .inl (T 1, 40, .inr (.inl rbf))), (rc0, .inr (1, [.int rch, .int (nI rcz), .ref rc1, .int (nI rcs)])), (rc1, .inl (T 1, 40, .inr (.inl rcf))), (rd0, .inr (1, [.int rdh, .int (nI rdz), .ref rd1, .int (nI rds)])), (rd1, .inl (T 1, 40, .inr (.inl rdf)))] ∧ ¬ row < 0 ∧ ¬ nI 4 ≤ row ∧ (row = nI 0 → ¬ rah = 0) ∧ (row = nI 1 → ¬ rbh = 0) ∧ (row = nI 2 → ¬ rch = 0) ∧ (row = nI 3 → ¬ rdh = 0)) ∨ (∃ (z : Int32), rr = some (.int z) ∧ ww = [(o, .inr (7, [.ref n0, .ref s0, .ref im, .ref iz, .ref rw, .ref t0, .ref u0, .ref h0, .ref y0, sv])), (rw, .inl (T 5, 4, .inr (.inr (.inr (.inr (va_up (va_up (va_up (va_up (fun _ => none) 0 (some ra0)) 1 (some rb0)) 2 (some rc0)) 3 (some rd0))))))), (ra0, .inr (1, [.int rah, .int (nI raz), .ref ra1, .int (nI ras)])), (ra1, .inl (T 1, 40, .inr (.inl raf))), (rb0, .inr (1, [.int rbh, .int (nI rbz), .ref rb1, .int (nI rbs)])), (rb1, .inl (T 1, 40, .inr (.inl rbf))), (rc0, .inr (1, [.int rch, .int (nI rcz), .ref rc1, .int (nI rcs)])), (rc1, .inl (T 1, 40, .inr (.inl rcf))), (rd0, .inr (1, [.int rdh, .int (nI rdz), .ref rd1, .int (nI rds)])), (rd1, .inl (T 1, 40, .inr (.inl rdf)))] ∧ ¬ z = 0 ∧ z = rowWhy row rah rbh rch rdh)
set_option maxHeartbeats 4000000 in
set_option maxRecDepth 100000 in
theorem x_refusedRow (l : Launch) (D : va_G) (T : Nat → ClassId) (o : Nat) (row : Int32) (n0 : Nat) (s0 : Nat) (im : Nat) (iz : Nat) (rw : Nat) (t0 : Nat) (u0 : Nat) (h0 : Nat) (y0 : Nat) (sv : Value) (ra0 : Nat) (rb0 : Nat) (rc0 : Nat) (rd0 : Nat) (rah : Int32) (raz : Nat) (ra1 : Nat) (ras : Nat) (raf : Nat → Int64) (rbh : Int32) (rbz : Nat) (rb1 : Nat) (rbs : Nat) (rbf : Nat → Int64) (rch : Int32) (rcz : Nat) (rc1 : Nat) (rcs : Nat) (rcf : Nat → Int64) (rdh : Int32) (rdz : Nat) (rd1 : Nat) (rds : Nat) (rdf : Nat → Int64) : Ct l yX7_refusedRow cX7_refusedRow 2 (some .int) 1 0 0 D T [.ref o, .int row] [(o, .inr (7, [.ref n0, .ref s0, .ref im, .ref iz, .ref rw, .ref t0, .ref u0, .ref h0, .ref y0, sv])), (rw, .inl (T 5, 4, .inr (.inr (.inr (.inr (va_up (va_up (va_up (va_up (fun _ => none) 0 (some ra0)) 1 (some rb0)) 2 (some rc0)) 3 (some rd0))))))), (ra0, .inr (1, [.int rah, .int (nI raz), .ref ra1, .int (nI ras)])), (ra1, .inl (T 1, 40, .inr (.inl raf))), (rb0, .inr (1, [.int rbh, .int (nI rbz), .ref rb1, .int (nI rbs)])), (rb1, .inl (T 1, 40, .inr (.inl rbf))), (rc0, .inr (1, [.int rch, .int (nI rcz), .ref rc1, .int (nI rcs)])), (rc1, .inl (T 1, 40, .inr (.inl rcf))), (rd0, .inr (1, [.int rdh, .int (nI rdz), .ref rd1, .int (nI rds)])), (rd1, .inl (T 1, 40, .inr (.inl rdf)))] (q_x_refusedRow T o row n0 s0 im iz rw t0 u0 h0 y0 sv ra0 rb0 rc0 rd0 rah raz ra1 ras raf rbh rbz rb1 rbs rbf rch rcz rc1 rcs rcf rdh rdz rd1 rds rdf) := by
  refine Ct.of (cc := cX7_refusedRow) (maxL := 2) (ret := (some .int)) (by decide) (Nat.le_of_ble_eq_true rfl) ?_
  intro p e s m args below meth c A ls hC hnm V hl
  obtain ⟨hx, hb, hr, hml, hown, hts, hlocks⟩ := id hC
  generalize hH : s.heap = H at V ⊢
  clear hH
  have hl : lv_has ls 2 [(0, .ref o), (1, .int row)] := hl
  generalize hlo : ([] : List Loc) = locs at V ⊢
  clear hlo
  refine lv_iload_n hx hb dX7_refusedRow_0 rfl (lv_at hl 1 rfl) ?_
  refine g_callSU (nA := 1) hC V hl.1 (c_isRow l D T row) w_501 w_502 w_2 w_503 (by decide +kernel) rfl ⟨(Nat.le_of_ble_eq_true rfl), (Nat.le_of_ble_eq_true rfl)⟩ [] rfl rfl (Nat.le_of_ble_eq_true rfl) dX7_refusedRow_1 ⟨(Nat.le_of_ble_eq_true rfl), (Nat.le_of_ble_eq_true rfl)⟩ rfl (fun r w1 H locs hQ V => ?_)
  rcases hQ with ⟨rfl, rfl, f_1, f_2⟩ | ⟨rfl, rfl, f_3⟩
  · have V : gW D T A s [(o, .inr (7, [.ref n0, .ref s0, .ref im, .ref iz, .ref rw, .ref t0, .ref u0, .ref h0, .ref y0, sv])), (rw, .inl (T 5, 4, .inr (.inr (.inr (.inr (va_up (va_up (va_up (va_up (fun _ => none) 0 (some ra0)) 1 (some rb0)) 2 (some rc0)) 3 (some rd0))))))), (ra0, .inr (1, [.int rah, .int (nI raz), .ref ra1, .int (nI ras)])), (ra1, .inl (T 1, 40, .inr (.inl raf))), (rb0, .inr (1, [.int rbh, .int (nI rbz), .ref rb1, .int (nI rbs)])), (rb1, .inl (T 1, 40, .inr (.inl rbf))), (rc0, .inr (1, [.int rch, .int (nI rcz), .ref rc1, .int (nI rcs)])), (rc1, .inl (T 1, 40, .inr (.inl rcf))), (rd0, .inr (1, [.int rdh, .int (nI rdz), .ref rd1, .int (nI rds)])), (rd1, .inl (T 1, 40, .inr (.inl rdf)))] H locs := V _ [] rfl rfl rfl (by decide +kernel) rfl
    show W p l e _ s m args below meth c H locs _ _ _ (F0 m 4 ls [.int (nI 1)])
    obtain ⟨j_4, hj_4, ej_4⟩ := g_idx (n := 4) (by decide) f_1 f_2
    rw [ej_4] at hl
    have hj_4 : j_4 = 0 ∨ j_4 = 1 ∨ j_4 = 2 ∨ j_4 = 3 := by omega
    rcases hj_4 with rfl | rfl | rfl | rfl
    · skip
      refine lv_if_ne (tgt := 10) hx hb dX7_refusedRow_4 (by decide) (fun _ => ?_) (fun c => absurd (show (nI 1) = 0 from c) (by decide +kernel))
      refine lv_aload_n hx hb dX7_refusedRow_10 rfl (lv_at hl 0 rfl) ?_
      refine g_get hC V (ci := 7) uwX7 0 rfl rfl 4 (by decide) w_253 rfl rfl dX7_refusedRow_11 ?_
      refine lv_iload_n hx hb dX7_refusedRow_14 rfl (lv_at hl 1 rfl) ?_
      refine g_aald hC V 1 5 rfl rfl (vp_in_nI (by decide) (by decide)) (v := .ref ra0) (by rw [nI_clamp (by decide)]; rfl) dX7_refusedRow_15 ?_
      refine g_get hC V (ci := 1) uwX1 2 rfl rfl 0 (by decide) w_229 rfl rfl dX7_refusedRow_16 ?_
      refine lv_if_eq (tgt := 26) hx hb dX7_refusedRow_19 (by decide) (fun c_5 => ?_) (fun c_5 => ?_)
      · skip
        refine lv_bipush (v := (-6)) hx hb dX7_refusedRow_26 (by decide +kernel) ?_
        exact g_iret (Qr := (q_x_refusedRow T o row n0 s0 im iz rw t0 u0 h0 y0 sv ra0 rb0 rc0 rd0 rah raz ra1 ras raf rbh rbz rb1 rbs rbf rch rcz rc1 rcs rcf rdh rdz rd1 rds rdf)) hC V ⟨(Nat.le_of_ble_eq_true rfl), (Nat.le_of_ble_eq_true rfl)⟩ (.inr ⟨(-6), rfl, rfl, (by decide +kernel), (by first | exact rw_0 (by assumption) (by assumption) | exact rw_1 (by assumption) (by assumption) | exact rw_2 (by assumption) (by assumption) | exact rw_3 (by assumption) (by assumption))⟩) dX7_refusedRow_28
      · skip
        refine lv_iconst (v := (nI 0)) hx hb dX7_refusedRow_22 (by decide +kernel) ?_
        refine lv_goto (tgt := 28) hx hb dX7_refusedRow_23 (by decide) ?_
        exact g_iret (Qr := (q_x_refusedRow T o row n0 s0 im iz rw t0 u0 h0 y0 sv ra0 rb0 rc0 rd0 rah raz ra1 ras raf rbh rbz rb1 rbs rbf rch rcz rc1 rcs rcf rdh rdz rd1 rds rdf)) hC V ⟨(Nat.le_of_ble_eq_true rfl), (Nat.le_of_ble_eq_true rfl)⟩ (.inl ⟨rfl, rfl, (by assumption), (by assumption), (fun h => by first | assumption | (exfalso; exact rw_ne h ej_4 (by decide +kernel))), (fun h => by first | assumption | (exfalso; exact rw_ne h ej_4 (by decide +kernel))), (fun h => by first | assumption | (exfalso; exact rw_ne h ej_4 (by decide +kernel))), (fun h => by first | assumption | (exfalso; exact rw_ne h ej_4 (by decide +kernel)))⟩) dX7_refusedRow_28
    · skip
      refine lv_if_ne (tgt := 10) hx hb dX7_refusedRow_4 (by decide) (fun _ => ?_) (fun c => absurd (show (nI 1) = 0 from c) (by decide +kernel))
      refine lv_aload_n hx hb dX7_refusedRow_10 rfl (lv_at hl 0 rfl) ?_
      refine g_get hC V (ci := 7) uwX7 0 rfl rfl 4 (by decide) w_253 rfl rfl dX7_refusedRow_11 ?_
      refine lv_iload_n hx hb dX7_refusedRow_14 rfl (lv_at hl 1 rfl) ?_
      refine g_aald hC V 1 5 rfl rfl (vp_in_nI (by decide) (by decide)) (v := .ref rb0) (by rw [nI_clamp (by decide)]; rfl) dX7_refusedRow_15 ?_
      refine g_get hC V (ci := 1) uwX1 4 rfl rfl 0 (by decide) w_229 rfl rfl dX7_refusedRow_16 ?_
      refine lv_if_eq (tgt := 26) hx hb dX7_refusedRow_19 (by decide) (fun c_6 => ?_) (fun c_6 => ?_)
      · skip
        refine lv_bipush (v := (-6)) hx hb dX7_refusedRow_26 (by decide +kernel) ?_
        exact g_iret (Qr := (q_x_refusedRow T o row n0 s0 im iz rw t0 u0 h0 y0 sv ra0 rb0 rc0 rd0 rah raz ra1 ras raf rbh rbz rb1 rbs rbf rch rcz rc1 rcs rcf rdh rdz rd1 rds rdf)) hC V ⟨(Nat.le_of_ble_eq_true rfl), (Nat.le_of_ble_eq_true rfl)⟩ (.inr ⟨(-6), rfl, rfl, (by decide +kernel), (by first | exact rw_0 (by assumption) (by assumption) | exact rw_1 (by assumption) (by assumption) | exact rw_2 (by assumption) (by assumption) | exact rw_3 (by assumption) (by assumption))⟩) dX7_refusedRow_28
      · skip
        refine lv_iconst (v := (nI 0)) hx hb dX7_refusedRow_22 (by decide +kernel) ?_
        refine lv_goto (tgt := 28) hx hb dX7_refusedRow_23 (by decide) ?_
        exact g_iret (Qr := (q_x_refusedRow T o row n0 s0 im iz rw t0 u0 h0 y0 sv ra0 rb0 rc0 rd0 rah raz ra1 ras raf rbh rbz rb1 rbs rbf rch rcz rc1 rcs rcf rdh rdz rd1 rds rdf)) hC V ⟨(Nat.le_of_ble_eq_true rfl), (Nat.le_of_ble_eq_true rfl)⟩ (.inl ⟨rfl, rfl, (by assumption), (by assumption), (fun h => by first | assumption | (exfalso; exact rw_ne h ej_4 (by decide +kernel))), (fun h => by first | assumption | (exfalso; exact rw_ne h ej_4 (by decide +kernel))), (fun h => by first | assumption | (exfalso; exact rw_ne h ej_4 (by decide +kernel))), (fun h => by first | assumption | (exfalso; exact rw_ne h ej_4 (by decide +kernel)))⟩) dX7_refusedRow_28
    · skip
      refine lv_if_ne (tgt := 10) hx hb dX7_refusedRow_4 (by decide) (fun _ => ?_) (fun c => absurd (show (nI 1) = 0 from c) (by decide +kernel))
      refine lv_aload_n hx hb dX7_refusedRow_10 rfl (lv_at hl 0 rfl) ?_
      refine g_get hC V (ci := 7) uwX7 0 rfl rfl 4 (by decide) w_253 rfl rfl dX7_refusedRow_11 ?_
      refine lv_iload_n hx hb dX7_refusedRow_14 rfl (lv_at hl 1 rfl) ?_
      refine g_aald hC V 1 5 rfl rfl (vp_in_nI (by decide) (by decide)) (v := .ref rc0) (by rw [nI_clamp (by decide)]; rfl) dX7_refusedRow_15 ?_
      refine g_get hC V (ci := 1) uwX1 6 rfl rfl 0 (by decide) w_229 rfl rfl dX7_refusedRow_16 ?_
      refine lv_if_eq (tgt := 26) hx hb dX7_refusedRow_19 (by decide) (fun c_7 => ?_) (fun c_7 => ?_)
      · skip
        refine lv_bipush (v := (-6)) hx hb dX7_refusedRow_26 (by decide +kernel) ?_
        exact g_iret (Qr := (q_x_refusedRow T o row n0 s0 im iz rw t0 u0 h0 y0 sv ra0 rb0 rc0 rd0 rah raz ra1 ras raf rbh rbz rb1 rbs rbf rch rcz rc1 rcs rcf rdh rdz rd1 rds rdf)) hC V ⟨(Nat.le_of_ble_eq_true rfl), (Nat.le_of_ble_eq_true rfl)⟩ (.inr ⟨(-6), rfl, rfl, (by decide +kernel), (by first | exact rw_0 (by assumption) (by assumption) | exact rw_1 (by assumption) (by assumption) | exact rw_2 (by assumption) (by assumption) | exact rw_3 (by assumption) (by assumption))⟩) dX7_refusedRow_28
      · skip
        refine lv_iconst (v := (nI 0)) hx hb dX7_refusedRow_22 (by decide +kernel) ?_
        refine lv_goto (tgt := 28) hx hb dX7_refusedRow_23 (by decide) ?_
        exact g_iret (Qr := (q_x_refusedRow T o row n0 s0 im iz rw t0 u0 h0 y0 sv ra0 rb0 rc0 rd0 rah raz ra1 ras raf rbh rbz rb1 rbs rbf rch rcz rc1 rcs rcf rdh rdz rd1 rds rdf)) hC V ⟨(Nat.le_of_ble_eq_true rfl), (Nat.le_of_ble_eq_true rfl)⟩ (.inl ⟨rfl, rfl, (by assumption), (by assumption), (fun h => by first | assumption | (exfalso; exact rw_ne h ej_4 (by decide +kernel))), (fun h => by first | assumption | (exfalso; exact rw_ne h ej_4 (by decide +kernel))), (fun h => by first | assumption | (exfalso; exact rw_ne h ej_4 (by decide +kernel))), (fun h => by first | assumption | (exfalso; exact rw_ne h ej_4 (by decide +kernel)))⟩) dX7_refusedRow_28
    · skip
      refine lv_if_ne (tgt := 10) hx hb dX7_refusedRow_4 (by decide) (fun _ => ?_) (fun c => absurd (show (nI 1) = 0 from c) (by decide +kernel))
      refine lv_aload_n hx hb dX7_refusedRow_10 rfl (lv_at hl 0 rfl) ?_
      refine g_get hC V (ci := 7) uwX7 0 rfl rfl 4 (by decide) w_253 rfl rfl dX7_refusedRow_11 ?_
      refine lv_iload_n hx hb dX7_refusedRow_14 rfl (lv_at hl 1 rfl) ?_
      refine g_aald hC V 1 5 rfl rfl (vp_in_nI (by decide) (by decide)) (v := .ref rd0) (by rw [nI_clamp (by decide)]; rfl) dX7_refusedRow_15 ?_
      refine g_get hC V (ci := 1) uwX1 8 rfl rfl 0 (by decide) w_229 rfl rfl dX7_refusedRow_16 ?_
      refine lv_if_eq (tgt := 26) hx hb dX7_refusedRow_19 (by decide) (fun c_8 => ?_) (fun c_8 => ?_)
      · skip
        refine lv_bipush (v := (-6)) hx hb dX7_refusedRow_26 (by decide +kernel) ?_
        exact g_iret (Qr := (q_x_refusedRow T o row n0 s0 im iz rw t0 u0 h0 y0 sv ra0 rb0 rc0 rd0 rah raz ra1 ras raf rbh rbz rb1 rbs rbf rch rcz rc1 rcs rcf rdh rdz rd1 rds rdf)) hC V ⟨(Nat.le_of_ble_eq_true rfl), (Nat.le_of_ble_eq_true rfl)⟩ (.inr ⟨(-6), rfl, rfl, (by decide +kernel), (by first | exact rw_0 (by assumption) (by assumption) | exact rw_1 (by assumption) (by assumption) | exact rw_2 (by assumption) (by assumption) | exact rw_3 (by assumption) (by assumption))⟩) dX7_refusedRow_28
      · skip
        refine lv_iconst (v := (nI 0)) hx hb dX7_refusedRow_22 (by decide +kernel) ?_
        refine lv_goto (tgt := 28) hx hb dX7_refusedRow_23 (by decide) ?_
        exact g_iret (Qr := (q_x_refusedRow T o row n0 s0 im iz rw t0 u0 h0 y0 sv ra0 rb0 rc0 rd0 rah raz ra1 ras raf rbh rbz rb1 rbs rbf rch rcz rc1 rcs rcf rdh rdz rd1 rds rdf)) hC V ⟨(Nat.le_of_ble_eq_true rfl), (Nat.le_of_ble_eq_true rfl)⟩ (.inl ⟨rfl, rfl, (by assumption), (by assumption), (fun h => by first | assumption | (exfalso; exact rw_ne h ej_4 (by decide +kernel))), (fun h => by first | assumption | (exfalso; exact rw_ne h ej_4 (by decide +kernel))), (fun h => by first | assumption | (exfalso; exact rw_ne h ej_4 (by decide +kernel))), (fun h => by first | assumption | (exfalso; exact rw_ne h ej_4 (by decide +kernel)))⟩) dX7_refusedRow_28
  · have V : gW D T A s [(o, .inr (7, [.ref n0, .ref s0, .ref im, .ref iz, .ref rw, .ref t0, .ref u0, .ref h0, .ref y0, sv])), (rw, .inl (T 5, 4, .inr (.inr (.inr (.inr (va_up (va_up (va_up (va_up (fun _ => none) 0 (some ra0)) 1 (some rb0)) 2 (some rc0)) 3 (some rd0))))))), (ra0, .inr (1, [.int rah, .int (nI raz), .ref ra1, .int (nI ras)])), (ra1, .inl (T 1, 40, .inr (.inl raf))), (rb0, .inr (1, [.int rbh, .int (nI rbz), .ref rb1, .int (nI rbs)])), (rb1, .inl (T 1, 40, .inr (.inl rbf))), (rc0, .inr (1, [.int rch, .int (nI rcz), .ref rc1, .int (nI rcs)])), (rc1, .inl (T 1, 40, .inr (.inl rcf))), (rd0, .inr (1, [.int rdh, .int (nI rdz), .ref rd1, .int (nI rds)])), (rd1, .inl (T 1, 40, .inr (.inl rdf)))] H locs := V _ [] rfl rfl rfl (by decide +kernel) rfl
    show W p l e _ s m args below meth c H locs _ _ _ (F0 m 4 ls [.int (nI 0)])
    refine lv_if_ne (tgt := 10) hx hb dX7_refusedRow_4 (by decide) (fun c => absurd (show (nI 0) = 0 by decide +kernel) c) (fun _ => ?_)
    refine lv_bipush (v := (-2)) hx hb dX7_refusedRow_7 (by decide +kernel) ?_
    exact g_iret (Qr := (q_x_refusedRow T o row n0 s0 im iz rw t0 u0 h0 y0 sv ra0 rb0 rc0 rd0 rah raz ra1 ras raf rbh rbz rb1 rbs rbf rch rcz rc1 rcs rcf rdh rdz rd1 rds rdf)) hC V ⟨(Nat.le_of_ble_eq_true rfl), (Nat.le_of_ble_eq_true rfl)⟩ (.inr ⟨(-2), rfl, rfl, (by decide +kernel), (rw_out (by assumption))⟩) dX7_refusedRow_9


def q_x_refusedSeen (T : Nat → ClassId) (o : Nat) (row : Int32) (n0 : Nat) (s0 : Nat) (im : Nat) (iz : Nat) (rw : Nat) (t0 : Nat) (u0 : Nat) (h0 : Nat) (y0 : Nat) (sv : Value) (ra0 : Nat) (rb0 : Nat) (rc0 : Nat) (rd0 : Nat) (rah : Int32) (raz : Nat) (ra1 : Nat) (ras : Nat) (raf : Nat → Int64) (rbh : Int32) (rbz : Nat) (rb1 : Nat) (rbs : Nat) (rbf : Nat → Int64) (rch : Int32) (rcz : Nat) (rc1 : Nat) (rcs : Nat) (rcf : Nat → Int64) (rdh : Int32) (rdz : Nat) (rd1 : Nat) (rds : Nat) (rdf : Nat → Int64) (nn : Nat) (nm : Int32) (nl : Int32) (no : Int32) (nu : Int32) (n1 : Nat) (n2 : Nat) (n3 : Nat) (n4 : Nat) (n5 : Nat) (n6 : Nat) (n7 : Nat) (n8 : Nat) (n9 : Nat) (n10 : Nat) : Option Value → va_W → Prop := fun rr ww => (rr = some (.int (nI 0)) ∧ ww = [(o, .inr (7, [.ref n0, .ref s0, .ref im, .ref iz, .ref rw, .ref t0, .ref u0, .ref h0, .ref y0, sv])), (rw, .inl (T 5, 4, .inr (.inr (.inr (.inr (va_up (va_up (va_up (va_up (fun _ => none) 0 (some ra0)) 1 (some rb0)) 2 (some rc0)) 3 (some rd0))))))), (ra0, .inr (1, [.int rah, .int (nI raz), .ref ra1, .int (nI ras)])), (ra1, .inl (T 1, 40, .inr (.inl raf))), (rb0, .inr (1, [.int rbh, .int (nI rbz), .ref rb1, .int (nI rbs)])), (rb1, .inl (T 1, 40, .inr (.inl rbf))), (rc0, .inr (1, [.int rch, .int (nI rcz), .ref rc1, .int (nI rcs)])), (rc1, .inl (T 1, 40, .inr (.inl rcf))), (rd0, .inr (1, [.int rdh, .int (nI rdz), .ref rd1, .int (nI rds)])), (rd1, .inl (T 1, 40, .inr (.inl rdf))), (n0, .inr (5, [.int (nI nn), .int nm, .int nl, .int no, .int nu, .ref n1, .ref n2, .ref n3, .ref n4, .ref n5, .ref n6, .ref n7, .ref n8, .ref n9, .ref n10]))] ∧ ¬ row < 0 ∧ ¬ nI 4 ≤ row) ∨ (∃ (z : Int32), rr = some (.int z) ∧ ww = [(o, .inr (7, [.ref n0, .ref s0, .ref im, .ref iz, .ref rw, .ref t0, .ref u0, .ref h0, .ref y0, sv])), (rw, .inl (T 5, 4, .inr (.inr (.inr (.inr (va_up (va_up (va_up (va_up (fun _ => none) 0 (some ra0)) 1 (some rb0)) 2 (some rc0)) 3 (some rd0))))))), (ra0, .inr (1, [.int rah, .int (nI raz), .ref ra1, .int (nI ras)])), (ra1, .inl (T 1, 40, .inr (.inl raf))), (rb0, .inr (1, [.int rbh, .int (nI rbz), .ref rb1, .int (nI rbs)])), (rb1, .inl (T 1, 40, .inr (.inl rbf))), (rc0, .inr (1, [.int rch, .int (nI rcz), .ref rc1, .int (nI rcs)])), (rc1, .inl (T 1, 40, .inr (.inl rcf))), (rd0, .inr (1, [.int rdh, .int (nI rdz), .ref rd1, .int (nI rds)])), (rd1, .inl (T 1, 40, .inr (.inl rdf))), (n0, .inr (5, [.int (nI nn), .int nm, .int nl, .int no, .int nu, .ref n1, .ref n2, .ref n3, .ref n4, .ref n5, .ref n6, .ref n7, .ref n8, .ref n9, .ref n10]))] ∧ ¬ z = 0)
set_option maxHeartbeats 4000000 in
set_option maxRecDepth 100000 in
theorem x_refusedSeen (l : Launch) (D : va_G) (T : Nat → ClassId) (o : Nat) (row : Int32) (n0 : Nat) (s0 : Nat) (im : Nat) (iz : Nat) (rw : Nat) (t0 : Nat) (u0 : Nat) (h0 : Nat) (y0 : Nat) (sv : Value) (ra0 : Nat) (rb0 : Nat) (rc0 : Nat) (rd0 : Nat) (rah : Int32) (raz : Nat) (ra1 : Nat) (ras : Nat) (raf : Nat → Int64) (rbh : Int32) (rbz : Nat) (rb1 : Nat) (rbs : Nat) (rbf : Nat → Int64) (rch : Int32) (rcz : Nat) (rc1 : Nat) (rcs : Nat) (rcf : Nat → Int64) (rdh : Int32) (rdz : Nat) (rd1 : Nat) (rds : Nat) (rdf : Nat → Int64) (nn : Nat) (nm : Int32) (nl : Int32) (no : Int32) (nu : Int32) (n1 : Nat) (n2 : Nat) (n3 : Nat) (n4 : Nat) (n5 : Nat) (n6 : Nat) (n7 : Nat) (n8 : Nat) (n9 : Nat) (n10 : Nat) (h_n : nn ≤ 10) (h_zra : raz ≤ 40) (h_zrb : rbz ≤ 40) (h_zrc : rcz ≤ 40) (h_zrd : rdz ≤ 40) (h_sra : ras ≤ 3) (h_srb : rbs ≤ 3) (h_src : rcs ≤ 3) (h_srd : rds ≤ 3) : Ct l yX7_refusedSeen cX7_refusedSeen 3 (some .int) 2 0 0 D T [.ref o, .int row] [(o, .inr (7, [.ref n0, .ref s0, .ref im, .ref iz, .ref rw, .ref t0, .ref u0, .ref h0, .ref y0, sv])), (rw, .inl (T 5, 4, .inr (.inr (.inr (.inr (va_up (va_up (va_up (va_up (fun _ => none) 0 (some ra0)) 1 (some rb0)) 2 (some rc0)) 3 (some rd0))))))), (ra0, .inr (1, [.int rah, .int (nI raz), .ref ra1, .int (nI ras)])), (ra1, .inl (T 1, 40, .inr (.inl raf))), (rb0, .inr (1, [.int rbh, .int (nI rbz), .ref rb1, .int (nI rbs)])), (rb1, .inl (T 1, 40, .inr (.inl rbf))), (rc0, .inr (1, [.int rch, .int (nI rcz), .ref rc1, .int (nI rcs)])), (rc1, .inl (T 1, 40, .inr (.inl rcf))), (rd0, .inr (1, [.int rdh, .int (nI rdz), .ref rd1, .int (nI rds)])), (rd1, .inl (T 1, 40, .inr (.inl rdf))), (n0, .inr (5, [.int (nI nn), .int nm, .int nl, .int no, .int nu, .ref n1, .ref n2, .ref n3, .ref n4, .ref n5, .ref n6, .ref n7, .ref n8, .ref n9, .ref n10]))] (q_x_refusedSeen T o row n0 s0 im iz rw t0 u0 h0 y0 sv ra0 rb0 rc0 rd0 rah raz ra1 ras raf rbh rbz rb1 rbs rbf rch rcz rc1 rcs rcf rdh rdz rd1 rds rdf nn nm nl no nu n1 n2 n3 n4 n5 n6 n7 n8 n9 n10) := by
  refine Ct.of (cc := cX7_refusedSeen) (maxL := 3) (ret := (some .int)) (by decide) (Nat.le_of_ble_eq_true rfl) ?_
  intro p e s m args below meth c A ls hC hnm V hl
  obtain ⟨hx, hb, hr, hml, hown, hts, hlocks⟩ := id hC
  generalize hH : s.heap = H at V ⊢
  clear hH
  have hl : lv_has ls 3 [(0, .ref o), (1, .int row)] := hl
  generalize hlo : ([] : List Loc) = locs at V ⊢
  clear hlo
  refine lv_aload_n hx hb dX7_refusedSeen_0 rfl (lv_at hl 0 rfl) ?_
  refine lv_iload_n hx hb dX7_refusedSeen_1 rfl (lv_at hl 1 rfl) ?_
  refine g_callVU (nA := 1) hC V hl.1 (x_refusedRow l D T o row n0 s0 im iz rw t0 u0 h0 y0 sv ra0 rb0 rc0 rd0 rah raz ra1 ras raf rbh rbz rb1 rbs rbf rch rcz rc1 rcs rcf rdh rdz rd1 rds rdf) w_524 w_526 w_s11 w_2 w_527 (by decide +kernel) rfl ⟨(Nat.le_of_ble_eq_true rfl), (Nat.le_of_ble_eq_true rfl)⟩ 0 (ci := 7) rfl rfl [0, 1, 2, 3, 4, 5, 6, 7, 8, 9] rfl rfl (Nat.le_of_ble_eq_true rfl) dX7_refusedSeen_2 ⟨(Nat.le_of_ble_eq_true rfl), (Nat.le_of_ble_eq_true rfl)⟩ rfl (fun r w1 H locs hQ V => ?_)
  rcases hQ with ⟨rfl, rfl, f_1, f_2, f_3, f_4, f_5, f_6⟩ | ⟨z_7, rfl, rfl, f_8, f_9⟩
  · have V : gW D T A s [(o, .inr (7, [.ref n0, .ref s0, .ref im, .ref iz, .ref rw, .ref t0, .ref u0, .ref h0, .ref y0, sv])), (rw, .inl (T 5, 4, .inr (.inr (.inr (.inr (va_up (va_up (va_up (va_up (fun _ => none) 0 (some ra0)) 1 (some rb0)) 2 (some rc0)) 3 (some rd0))))))), (ra0, .inr (1, [.int rah, .int (nI raz), .ref ra1, .int (nI ras)])), (ra1, .inl (T 1, 40, .inr (.inl raf))), (rb0, .inr (1, [.int rbh, .int (nI rbz), .ref rb1, .int (nI rbs)])), (rb1, .inl (T 1, 40, .inr (.inl rbf))), (rc0, .inr (1, [.int rch, .int (nI rcz), .ref rc1, .int (nI rcs)])), (rc1, .inl (T 1, 40, .inr (.inl rcf))), (rd0, .inr (1, [.int rdh, .int (nI rdz), .ref rd1, .int (nI rds)])), (rd1, .inl (T 1, 40, .inr (.inl rdf))), (n0, .inr (5, [.int (nI nn), .int nm, .int nl, .int no, .int nu, .ref n1, .ref n2, .ref n3, .ref n4, .ref n5, .ref n6, .ref n7, .ref n8, .ref n9, .ref n10]))] H locs := V _ [0, 0, 0, 0, 0, 0, 0, 0, 0, 0] rfl rfl rfl (by decide +kernel) rfl
    show W p l e _ s m args below meth c H locs _ _ _ (F0 m 5 ls [.int (nI 0)])
    obtain ⟨j_10, hj_10, ej_10⟩ := g_idx (n := 4) (by decide) f_1 f_2
    rw [ej_10] at hl
    have hj_10 : j_10 = 0 ∨ j_10 = 1 ∨ j_10 = 2 ∨ j_10 = 3 := by omega
    rcases hj_10 with rfl | rfl | rfl | rfl
    · skip
      refine lv_istore_n (lv' := [(2, .int (nI 0)), (0, .ref o), (1, .int (nI 0))]) hx hb dX7_refusedSeen_5 rfl hl (by decide) rfl (fun ls hl => ?_)
      refine lv_iload_n hx hb dX7_refusedSeen_6 rfl (lv_at hl 0 rfl) ?_
      refine lv_if_eq (tgt := 12) hx hb dX7_refusedSeen_7 (by decide) (fun _ => ?_) (fun c => absurd (show (nI 0) = 0 by decide +kernel) c)
      refine lv_aload_n hx hb dX7_refusedSeen_12 rfl (lv_at hl 1 rfl) ?_
      refine g_get hC V (ci := 7) uwX7 0 rfl rfl 4 (by decide) w_253 rfl rfl dX7_refusedSeen_13 ?_
      refine lv_iload_n hx hb dX7_refusedSeen_16 rfl (lv_at hl 2 rfl) ?_
      refine g_aald hC V 1 5 rfl rfl (vp_in_nI (by decide) (by decide)) (v := .ref ra0) (by rw [nI_clamp (by decide)]; rfl) dX7_refusedSeen_17 ?_
      refine g_get hC V (ci := 1) uwX1 2 rfl rfl 1 (by decide) w_232 rfl rfl dX7_refusedSeen_18 ?_
      refine lv_aload_n hx hb dX7_refusedSeen_21 rfl (lv_at hl 1 rfl) ?_
      refine g_get hC V (ci := 7) uwX7 0 rfl rfl 0 (by decide) w_249 rfl rfl dX7_refusedSeen_22 ?_
      refine g_get hC V (ci := 5) uwX5 10 rfl rfl 0 (by decide) w_38 rfl rfl dX7_refusedSeen_25 ?_
      refine lv_icmp_ne (tgt := 35) hx hb dX7_refusedSeen_28 (by decide) (fun c_11 => ?_) (fun c_11 => ?_)
      · skip
        have c_11 := b_ne (by omega) (by omega) c_11
        refine lv_bipush (v := (-7)) hx hb dX7_refusedSeen_35 (by decide +kernel) ?_
        exact g_iret (Qr := (q_x_refusedSeen T o row n0 s0 im iz rw t0 u0 h0 y0 sv ra0 rb0 rc0 rd0 rah raz ra1 ras raf rbh rbz rb1 rbs rbf rch rcz rc1 rcs rcf rdh rdz rd1 rds rdf nn nm nl no nu n1 n2 n3 n4 n5 n6 n7 n8 n9 n10)) hC V ⟨(Nat.le_of_ble_eq_true rfl), (Nat.le_of_ble_eq_true rfl)⟩ (.inr ⟨(-7), rfl, rfl, (by decide +kernel)⟩) dX7_refusedSeen_37
      · skip
        have c_11 := b_eq (by omega) (by omega) c_11
        refine lv_iconst (v := (nI 0)) hx hb dX7_refusedSeen_31 (by decide +kernel) ?_
        refine lv_goto (tgt := 37) hx hb dX7_refusedSeen_32 (by decide) ?_
        exact g_iret (Qr := (q_x_refusedSeen T o row n0 s0 im iz rw t0 u0 h0 y0 sv ra0 rb0 rc0 rd0 rah raz ra1 ras raf rbh rbz rb1 rbs rbf rch rcz rc1 rcs rcf rdh rdz rd1 rds rdf nn nm nl no nu n1 n2 n3 n4 n5 n6 n7 n8 n9 n10)) hC V ⟨(Nat.le_of_ble_eq_true rfl), (Nat.le_of_ble_eq_true rfl)⟩ (.inl ⟨rfl, rfl, (by assumption), (by assumption)⟩) dX7_refusedSeen_37
    · skip
      refine lv_istore_n (lv' := [(2, .int (nI 0)), (0, .ref o), (1, .int (nI 1))]) hx hb dX7_refusedSeen_5 rfl hl (by decide) rfl (fun ls hl => ?_)
      refine lv_iload_n hx hb dX7_refusedSeen_6 rfl (lv_at hl 0 rfl) ?_
      refine lv_if_eq (tgt := 12) hx hb dX7_refusedSeen_7 (by decide) (fun _ => ?_) (fun c => absurd (show (nI 0) = 0 by decide +kernel) c)
      refine lv_aload_n hx hb dX7_refusedSeen_12 rfl (lv_at hl 1 rfl) ?_
      refine g_get hC V (ci := 7) uwX7 0 rfl rfl 4 (by decide) w_253 rfl rfl dX7_refusedSeen_13 ?_
      refine lv_iload_n hx hb dX7_refusedSeen_16 rfl (lv_at hl 2 rfl) ?_
      refine g_aald hC V 1 5 rfl rfl (vp_in_nI (by decide) (by decide)) (v := .ref rb0) (by rw [nI_clamp (by decide)]; rfl) dX7_refusedSeen_17 ?_
      refine g_get hC V (ci := 1) uwX1 4 rfl rfl 1 (by decide) w_232 rfl rfl dX7_refusedSeen_18 ?_
      refine lv_aload_n hx hb dX7_refusedSeen_21 rfl (lv_at hl 1 rfl) ?_
      refine g_get hC V (ci := 7) uwX7 0 rfl rfl 0 (by decide) w_249 rfl rfl dX7_refusedSeen_22 ?_
      refine g_get hC V (ci := 5) uwX5 10 rfl rfl 0 (by decide) w_38 rfl rfl dX7_refusedSeen_25 ?_
      refine lv_icmp_ne (tgt := 35) hx hb dX7_refusedSeen_28 (by decide) (fun c_12 => ?_) (fun c_12 => ?_)
      · skip
        have c_12 := b_ne (by omega) (by omega) c_12
        refine lv_bipush (v := (-7)) hx hb dX7_refusedSeen_35 (by decide +kernel) ?_
        exact g_iret (Qr := (q_x_refusedSeen T o row n0 s0 im iz rw t0 u0 h0 y0 sv ra0 rb0 rc0 rd0 rah raz ra1 ras raf rbh rbz rb1 rbs rbf rch rcz rc1 rcs rcf rdh rdz rd1 rds rdf nn nm nl no nu n1 n2 n3 n4 n5 n6 n7 n8 n9 n10)) hC V ⟨(Nat.le_of_ble_eq_true rfl), (Nat.le_of_ble_eq_true rfl)⟩ (.inr ⟨(-7), rfl, rfl, (by decide +kernel)⟩) dX7_refusedSeen_37
      · skip
        have c_12 := b_eq (by omega) (by omega) c_12
        refine lv_iconst (v := (nI 0)) hx hb dX7_refusedSeen_31 (by decide +kernel) ?_
        refine lv_goto (tgt := 37) hx hb dX7_refusedSeen_32 (by decide) ?_
        exact g_iret (Qr := (q_x_refusedSeen T o row n0 s0 im iz rw t0 u0 h0 y0 sv ra0 rb0 rc0 rd0 rah raz ra1 ras raf rbh rbz rb1 rbs rbf rch rcz rc1 rcs rcf rdh rdz rd1 rds rdf nn nm nl no nu n1 n2 n3 n4 n5 n6 n7 n8 n9 n10)) hC V ⟨(Nat.le_of_ble_eq_true rfl), (Nat.le_of_ble_eq_true rfl)⟩ (.inl ⟨rfl, rfl, (by assumption), (by assumption)⟩) dX7_refusedSeen_37
    · skip
      refine lv_istore_n (lv' := [(2, .int (nI 0)), (0, .ref o), (1, .int (nI 2))]) hx hb dX7_refusedSeen_5 rfl hl (by decide) rfl (fun ls hl => ?_)
      refine lv_iload_n hx hb dX7_refusedSeen_6 rfl (lv_at hl 0 rfl) ?_
      refine lv_if_eq (tgt := 12) hx hb dX7_refusedSeen_7 (by decide) (fun _ => ?_) (fun c => absurd (show (nI 0) = 0 by decide +kernel) c)
      refine lv_aload_n hx hb dX7_refusedSeen_12 rfl (lv_at hl 1 rfl) ?_
      refine g_get hC V (ci := 7) uwX7 0 rfl rfl 4 (by decide) w_253 rfl rfl dX7_refusedSeen_13 ?_
      refine lv_iload_n hx hb dX7_refusedSeen_16 rfl (lv_at hl 2 rfl) ?_
      refine g_aald hC V 1 5 rfl rfl (vp_in_nI (by decide) (by decide)) (v := .ref rc0) (by rw [nI_clamp (by decide)]; rfl) dX7_refusedSeen_17 ?_
      refine g_get hC V (ci := 1) uwX1 6 rfl rfl 1 (by decide) w_232 rfl rfl dX7_refusedSeen_18 ?_
      refine lv_aload_n hx hb dX7_refusedSeen_21 rfl (lv_at hl 1 rfl) ?_
      refine g_get hC V (ci := 7) uwX7 0 rfl rfl 0 (by decide) w_249 rfl rfl dX7_refusedSeen_22 ?_
      refine g_get hC V (ci := 5) uwX5 10 rfl rfl 0 (by decide) w_38 rfl rfl dX7_refusedSeen_25 ?_
      refine lv_icmp_ne (tgt := 35) hx hb dX7_refusedSeen_28 (by decide) (fun c_13 => ?_) (fun c_13 => ?_)
      · skip
        have c_13 := b_ne (by omega) (by omega) c_13
        refine lv_bipush (v := (-7)) hx hb dX7_refusedSeen_35 (by decide +kernel) ?_
        exact g_iret (Qr := (q_x_refusedSeen T o row n0 s0 im iz rw t0 u0 h0 y0 sv ra0 rb0 rc0 rd0 rah raz ra1 ras raf rbh rbz rb1 rbs rbf rch rcz rc1 rcs rcf rdh rdz rd1 rds rdf nn nm nl no nu n1 n2 n3 n4 n5 n6 n7 n8 n9 n10)) hC V ⟨(Nat.le_of_ble_eq_true rfl), (Nat.le_of_ble_eq_true rfl)⟩ (.inr ⟨(-7), rfl, rfl, (by decide +kernel)⟩) dX7_refusedSeen_37
      · skip
        have c_13 := b_eq (by omega) (by omega) c_13
        refine lv_iconst (v := (nI 0)) hx hb dX7_refusedSeen_31 (by decide +kernel) ?_
        refine lv_goto (tgt := 37) hx hb dX7_refusedSeen_32 (by decide) ?_
        exact g_iret (Qr := (q_x_refusedSeen T o row n0 s0 im iz rw t0 u0 h0 y0 sv ra0 rb0 rc0 rd0 rah raz ra1 ras raf rbh rbz rb1 rbs rbf rch rcz rc1 rcs rcf rdh rdz rd1 rds rdf nn nm nl no nu n1 n2 n3 n4 n5 n6 n7 n8 n9 n10)) hC V ⟨(Nat.le_of_ble_eq_true rfl), (Nat.le_of_ble_eq_true rfl)⟩ (.inl ⟨rfl, rfl, (by assumption), (by assumption)⟩) dX7_refusedSeen_37
    · skip
      refine lv_istore_n (lv' := [(2, .int (nI 0)), (0, .ref o), (1, .int (nI 3))]) hx hb dX7_refusedSeen_5 rfl hl (by decide) rfl (fun ls hl => ?_)
      refine lv_iload_n hx hb dX7_refusedSeen_6 rfl (lv_at hl 0 rfl) ?_
      refine lv_if_eq (tgt := 12) hx hb dX7_refusedSeen_7 (by decide) (fun _ => ?_) (fun c => absurd (show (nI 0) = 0 by decide +kernel) c)
      refine lv_aload_n hx hb dX7_refusedSeen_12 rfl (lv_at hl 1 rfl) ?_
      refine g_get hC V (ci := 7) uwX7 0 rfl rfl 4 (by decide) w_253 rfl rfl dX7_refusedSeen_13 ?_
      refine lv_iload_n hx hb dX7_refusedSeen_16 rfl (lv_at hl 2 rfl) ?_
      refine g_aald hC V 1 5 rfl rfl (vp_in_nI (by decide) (by decide)) (v := .ref rd0) (by rw [nI_clamp (by decide)]; rfl) dX7_refusedSeen_17 ?_
      refine g_get hC V (ci := 1) uwX1 8 rfl rfl 1 (by decide) w_232 rfl rfl dX7_refusedSeen_18 ?_
      refine lv_aload_n hx hb dX7_refusedSeen_21 rfl (lv_at hl 1 rfl) ?_
      refine g_get hC V (ci := 7) uwX7 0 rfl rfl 0 (by decide) w_249 rfl rfl dX7_refusedSeen_22 ?_
      refine g_get hC V (ci := 5) uwX5 10 rfl rfl 0 (by decide) w_38 rfl rfl dX7_refusedSeen_25 ?_
      refine lv_icmp_ne (tgt := 35) hx hb dX7_refusedSeen_28 (by decide) (fun c_14 => ?_) (fun c_14 => ?_)
      · skip
        have c_14 := b_ne (by omega) (by omega) c_14
        refine lv_bipush (v := (-7)) hx hb dX7_refusedSeen_35 (by decide +kernel) ?_
        exact g_iret (Qr := (q_x_refusedSeen T o row n0 s0 im iz rw t0 u0 h0 y0 sv ra0 rb0 rc0 rd0 rah raz ra1 ras raf rbh rbz rb1 rbs rbf rch rcz rc1 rcs rcf rdh rdz rd1 rds rdf nn nm nl no nu n1 n2 n3 n4 n5 n6 n7 n8 n9 n10)) hC V ⟨(Nat.le_of_ble_eq_true rfl), (Nat.le_of_ble_eq_true rfl)⟩ (.inr ⟨(-7), rfl, rfl, (by decide +kernel)⟩) dX7_refusedSeen_37
      · skip
        have c_14 := b_eq (by omega) (by omega) c_14
        refine lv_iconst (v := (nI 0)) hx hb dX7_refusedSeen_31 (by decide +kernel) ?_
        refine lv_goto (tgt := 37) hx hb dX7_refusedSeen_32 (by decide) ?_
        exact g_iret (Qr := (q_x_refusedSeen T o row n0 s0 im iz rw t0 u0 h0 y0 sv ra0 rb0 rc0 rd0 rah raz ra1 ras raf rbh rbz rb1 rbs rbf rch rcz rc1 rcs rcf rdh rdz rd1 rds rdf nn nm nl no nu n1 n2 n3 n4 n5 n6 n7 n8 n9 n10)) hC V ⟨(Nat.le_of_ble_eq_true rfl), (Nat.le_of_ble_eq_true rfl)⟩ (.inl ⟨rfl, rfl, (by assumption), (by assumption)⟩) dX7_refusedSeen_37
  · have V : gW D T A s [(o, .inr (7, [.ref n0, .ref s0, .ref im, .ref iz, .ref rw, .ref t0, .ref u0, .ref h0, .ref y0, sv])), (rw, .inl (T 5, 4, .inr (.inr (.inr (.inr (va_up (va_up (va_up (va_up (fun _ => none) 0 (some ra0)) 1 (some rb0)) 2 (some rc0)) 3 (some rd0))))))), (ra0, .inr (1, [.int rah, .int (nI raz), .ref ra1, .int (nI ras)])), (ra1, .inl (T 1, 40, .inr (.inl raf))), (rb0, .inr (1, [.int rbh, .int (nI rbz), .ref rb1, .int (nI rbs)])), (rb1, .inl (T 1, 40, .inr (.inl rbf))), (rc0, .inr (1, [.int rch, .int (nI rcz), .ref rc1, .int (nI rcs)])), (rc1, .inl (T 1, 40, .inr (.inl rcf))), (rd0, .inr (1, [.int rdh, .int (nI rdz), .ref rd1, .int (nI rds)])), (rd1, .inl (T 1, 40, .inr (.inl rdf))), (n0, .inr (5, [.int (nI nn), .int nm, .int nl, .int no, .int nu, .ref n1, .ref n2, .ref n3, .ref n4, .ref n5, .ref n6, .ref n7, .ref n8, .ref n9, .ref n10]))] H locs := V _ [0, 0, 0, 0, 0, 0, 0, 0, 0, 0] rfl rfl rfl (by decide +kernel) rfl
    show W p l e _ s m args below meth c H locs _ _ _ (F0 m 5 ls [.int z_7])
    refine lv_istore_n (lv' := [(2, .int z_7), (0, .ref o), (1, .int row)]) hx hb dX7_refusedSeen_5 rfl hl (by decide) rfl (fun ls hl => ?_)
    refine lv_iload_n hx hb dX7_refusedSeen_6 rfl (lv_at hl 0 rfl) ?_
    refine lv_if_eq (tgt := 12) hx hb dX7_refusedSeen_7 (by decide) (fun c_15 => ?_) (fun c_15 => ?_)
    · skip
      exact (absurd c_15 (by assumption) : False).elim
    · skip
      refine lv_iload_n hx hb dX7_refusedSeen_10 rfl (lv_at hl 0 rfl) ?_
      exact g_iret (Qr := (q_x_refusedSeen T o row n0 s0 im iz rw t0 u0 h0 y0 sv ra0 rb0 rc0 rd0 rah raz ra1 ras raf rbh rbz rb1 rbs rbf rch rcz rc1 rcs rcf rdh rdz rd1 rds rdf nn nm nl no nu n1 n2 n3 n4 n5 n6 n7 n8 n9 n10)) hC V ⟨(Nat.le_of_ble_eq_true rfl), (Nat.le_of_ble_eq_true rfl)⟩ (.inr ⟨z_7, rfl, rfl, (by first | assumption | omega)⟩) dX7_refusedSeen_11

def q_x_refusedRhythms (T : Nat → ClassId) (o : Nat) (row : Int32) (le : Int32) (n0 : Nat) (s0 : Nat) (im : Nat) (iz : Nat) (rw : Nat) (t0 : Nat) (u0 : Nat) (h0 : Nat) (y0 : Nat) (sv : Value) (ra0 : Nat) (rb0 : Nat) (rc0 : Nat) (rd0 : Nat) (rah : Int32) (raz : Nat) (ra1 : Nat) (ras : Nat) (raf : Nat → Int64) (rbh : Int32) (rbz : Nat) (rb1 : Nat) (rbs : Nat) (rbf : Nat → Int64) (rch : Int32) (rcz : Nat) (rc1 : Nat) (rcs : Nat) (rcf : Nat → Int64) (rdh : Int32) (rdz : Nat) (rd1 : Nat) (rds : Nat) (rdf : Nat → Int64) (nn : Nat) (nm : Int32) (nl : Int32) (no : Int32) (nu : Int32) (n1 : Nat) (n2 : Nat) (n3 : Nat) (n4 : Nat) (n5 : Nat) (n6 : Nat) (n7 : Nat) (n8 : Nat) (n9 : Nat) (n10 : Nat) : Option Value → va_W → Prop := fun rr ww => (∃ (j : Nat), rr = some (.int (nI 0)) ∧ ww = [(o, .inr (7, [.ref n0, .ref s0, .ref im, .ref iz, .ref rw, .ref t0, .ref u0, .ref h0, .ref y0, sv])), (rw, .inl (T 5, 4, .inr (.inr (.inr (.inr (va_up (va_up (va_up (va_up (fun _ => none) 0 (some ra0)) 1 (some rb0)) 2 (some rc0)) 3 (some rd0))))))), (ra0, .inr (1, [.int rah, .int (nI raz), .ref ra1, .int (nI ras)])), (ra1, .inl (T 1, 40, .inr (.inl raf))), (rb0, .inr (1, [.int rbh, .int (nI rbz), .ref rb1, .int (nI rbs)])), (rb1, .inl (T 1, 40, .inr (.inl rbf))), (rc0, .inr (1, [.int rch, .int (nI rcz), .ref rc1, .int (nI rcs)])), (rc1, .inl (T 1, 40, .inr (.inl rcf))), (rd0, .inr (1, [.int rdh, .int (nI rdz), .ref rd1, .int (nI rds)])), (rd1, .inl (T 1, 40, .inr (.inl rdf))), (n0, .inr (5, [.int (nI nn), .int nm, .int nl, .int no, .int nu, .ref n1, .ref n2, .ref n3, .ref n4, .ref n5, .ref n6, .ref n7, .ref n8, .ref n9, .ref n10]))] ∧ ¬ row < 0 ∧ ¬ nI 4 ≤ row ∧ 1 ≤ j ∧ j ≤ 12 ∧ le = nI j) ∨ (∃ (z : Int32), rr = some (.int z) ∧ ww = [(o, .inr (7, [.ref n0, .ref s0, .ref im, .ref iz, .ref rw, .ref t0, .ref u0, .ref h0, .ref y0, sv])), (rw, .inl (T 5, 4, .inr (.inr (.inr (.inr (va_up (va_up (va_up (va_up (fun _ => none) 0 (some ra0)) 1 (some rb0)) 2 (some rc0)) 3 (some rd0))))))), (ra0, .inr (1, [.int rah, .int (nI raz), .ref ra1, .int (nI ras)])), (ra1, .inl (T 1, 40, .inr (.inl raf))), (rb0, .inr (1, [.int rbh, .int (nI rbz), .ref rb1, .int (nI rbs)])), (rb1, .inl (T 1, 40, .inr (.inl rbf))), (rc0, .inr (1, [.int rch, .int (nI rcz), .ref rc1, .int (nI rcs)])), (rc1, .inl (T 1, 40, .inr (.inl rcf))), (rd0, .inr (1, [.int rdh, .int (nI rdz), .ref rd1, .int (nI rds)])), (rd1, .inl (T 1, 40, .inr (.inl rdf))), (n0, .inr (5, [.int (nI nn), .int nm, .int nl, .int no, .int nu, .ref n1, .ref n2, .ref n3, .ref n4, .ref n5, .ref n6, .ref n7, .ref n8, .ref n9, .ref n10]))] ∧ ¬ z = 0)
set_option maxHeartbeats 4000000 in
set_option maxRecDepth 100000 in
theorem x_refusedRhythms (l : Launch) (D : va_G) (T : Nat → ClassId) (o : Nat) (row : Int32) (le : Int32) (n0 : Nat) (s0 : Nat) (im : Nat) (iz : Nat) (rw : Nat) (t0 : Nat) (u0 : Nat) (h0 : Nat) (y0 : Nat) (sv : Value) (ra0 : Nat) (rb0 : Nat) (rc0 : Nat) (rd0 : Nat) (rah : Int32) (raz : Nat) (ra1 : Nat) (ras : Nat) (raf : Nat → Int64) (rbh : Int32) (rbz : Nat) (rb1 : Nat) (rbs : Nat) (rbf : Nat → Int64) (rch : Int32) (rcz : Nat) (rc1 : Nat) (rcs : Nat) (rcf : Nat → Int64) (rdh : Int32) (rdz : Nat) (rd1 : Nat) (rds : Nat) (rdf : Nat → Int64) (nn : Nat) (nm : Int32) (nl : Int32) (no : Int32) (nu : Int32) (n1 : Nat) (n2 : Nat) (n3 : Nat) (n4 : Nat) (n5 : Nat) (n6 : Nat) (n7 : Nat) (n8 : Nat) (n9 : Nat) (n10 : Nat) (h_n : nn ≤ 10) (h_zra : raz ≤ 40) (h_zrb : rbz ≤ 40) (h_zrc : rcz ≤ 40) (h_zrd : rdz ≤ 40) (h_sra : ras ≤ 3) (h_srb : rbs ≤ 3) (h_src : rcs ≤ 3) (h_srd : rds ≤ 3) : Ct l yX7_refusedRhythms cX7_refusedRhythms 4 (some .int) 3 0 0 D T [.ref o, .int row, .int le] [(o, .inr (7, [.ref n0, .ref s0, .ref im, .ref iz, .ref rw, .ref t0, .ref u0, .ref h0, .ref y0, sv])), (rw, .inl (T 5, 4, .inr (.inr (.inr (.inr (va_up (va_up (va_up (va_up (fun _ => none) 0 (some ra0)) 1 (some rb0)) 2 (some rc0)) 3 (some rd0))))))), (ra0, .inr (1, [.int rah, .int (nI raz), .ref ra1, .int (nI ras)])), (ra1, .inl (T 1, 40, .inr (.inl raf))), (rb0, .inr (1, [.int rbh, .int (nI rbz), .ref rb1, .int (nI rbs)])), (rb1, .inl (T 1, 40, .inr (.inl rbf))), (rc0, .inr (1, [.int rch, .int (nI rcz), .ref rc1, .int (nI rcs)])), (rc1, .inl (T 1, 40, .inr (.inl rcf))), (rd0, .inr (1, [.int rdh, .int (nI rdz), .ref rd1, .int (nI rds)])), (rd1, .inl (T 1, 40, .inr (.inl rdf))), (n0, .inr (5, [.int (nI nn), .int nm, .int nl, .int no, .int nu, .ref n1, .ref n2, .ref n3, .ref n4, .ref n5, .ref n6, .ref n7, .ref n8, .ref n9, .ref n10]))] (q_x_refusedRhythms T o row le n0 s0 im iz rw t0 u0 h0 y0 sv ra0 rb0 rc0 rd0 rah raz ra1 ras raf rbh rbz rb1 rbs rbf rch rcz rc1 rcs rcf rdh rdz rd1 rds rdf nn nm nl no nu n1 n2 n3 n4 n5 n6 n7 n8 n9 n10) := by
  refine Ct.of (cc := cX7_refusedRhythms) (maxL := 4) (ret := (some .int)) (by decide) (Nat.le_of_ble_eq_true rfl) ?_
  intro p e s m args below meth c A ls hC hnm V hl
  obtain ⟨hx, hb, hr, hml, hown, hts, hlocks⟩ := id hC
  generalize hH : s.heap = H at V ⊢
  clear hH
  have hl : lv_has ls 4 [(0, .ref o), (1, .int row), (2, .int le)] := hl
  generalize hlo : ([] : List Loc) = locs at V ⊢
  clear hlo
  refine lv_aload_n hx hb dX7_refusedRhythms_0 rfl (lv_at hl 0 rfl) ?_
  refine lv_iload_n hx hb dX7_refusedRhythms_1 rfl (lv_at hl 1 rfl) ?_
  refine g_callV (wr := []) (nA := 1) hC V hl.1 (x_refusedSeen l D T o row n0 s0 im iz rw t0 u0 h0 y0 sv ra0 rb0 rc0 rd0 rah raz ra1 ras raf rbh rbz rb1 rbs rbf rch rcz rc1 rcs rcf rdh rdz rd1 rds rdf nn nm nl no nu n1 n2 n3 n4 n5 n6 n7 n8 n9 n10 (by first | assumption | omega) (by first | assumption | omega) (by first | assumption | omega) (by first | assumption | omega) (by first | assumption | omega) (by first | assumption | omega) (by first | assumption | omega) (by first | assumption | omega) (by first | assumption | omega)) w_598 w_600 w_s16 w_2 w_601 (by decide +kernel) rfl ⟨(Nat.le_of_ble_eq_true rfl), (Nat.le_of_ble_eq_true rfl)⟩ 0 (ci := 7) rfl rfl [0, 1, 2, 3, 4, 5, 6, 7, 8, 9, 10] [] rfl rfl rfl rfl (by decide) (Nat.le_of_ble_eq_true rfl) dX7_refusedRhythms_2 ⟨(Nat.le_of_ble_eq_true rfl), (Nat.le_of_ble_eq_true rfl)⟩ rfl (fun r w1 H locs hQ V => ?_)
  rcases hQ with ⟨rfl, rfl, f_1, f_2⟩ | ⟨z_3, rfl, rfl, f_4⟩
  · have V : gW D T A s [(o, .inr (7, [.ref n0, .ref s0, .ref im, .ref iz, .ref rw, .ref t0, .ref u0, .ref h0, .ref y0, sv])), (rw, .inl (T 5, 4, .inr (.inr (.inr (.inr (va_up (va_up (va_up (va_up (fun _ => none) 0 (some ra0)) 1 (some rb0)) 2 (some rc0)) 3 (some rd0))))))), (ra0, .inr (1, [.int rah, .int (nI raz), .ref ra1, .int (nI ras)])), (ra1, .inl (T 1, 40, .inr (.inl raf))), (rb0, .inr (1, [.int rbh, .int (nI rbz), .ref rb1, .int (nI rbs)])), (rb1, .inl (T 1, 40, .inr (.inl rbf))), (rc0, .inr (1, [.int rch, .int (nI rcz), .ref rc1, .int (nI rcs)])), (rc1, .inl (T 1, 40, .inr (.inl rcf))), (rd0, .inr (1, [.int rdh, .int (nI rdz), .ref rd1, .int (nI rds)])), (rd1, .inl (T 1, 40, .inr (.inl rdf))), (n0, .inr (5, [.int (nI nn), .int nm, .int nl, .int no, .int nu, .ref n1, .ref n2, .ref n3, .ref n4, .ref n5, .ref n6, .ref n7, .ref n8, .ref n9, .ref n10]))] H locs := V
    show W p l e _ s m args below meth c H locs _ _ _ (F0 m 5 ls [.int (nI 0)])
    refine lv_istore_n (lv' := [(3, .int (nI 0)), (0, .ref o), (1, .int row), (2, .int le)]) hx hb dX7_refusedRhythms_5 rfl hl (by decide) rfl (fun ls hl => ?_)
    refine lv_iload_n hx hb dX7_refusedRhythms_6 rfl (lv_at hl 0 rfl) ?_
    refine lv_if_eq (tgt := 12) hx hb dX7_refusedRhythms_7 (by decide) (fun _ => ?_) (fun c => absurd (show (nI 0) = 0 by decide +kernel) c)
    refine lv_iload_n hx hb dX7_refusedRhythms_12 rfl (lv_at hl 3 rfl) ?_
    refine lv_iconst (v := (nI 1)) hx hb dX7_refusedRhythms_13 (by decide +kernel) ?_
    refine lv_bipush (v := (nI 12)) hx hb dX7_refusedRhythms_14 (by decide +kernel) ?_
    refine g_callSU (nA := 3) hC V hl.1 (c_isWithin l D T le (nI 1) (nI 12)) w_292 w_293 w_2 w_294 (by decide +kernel) rfl ⟨(Nat.le_of_ble_eq_true rfl), (Nat.le_of_ble_eq_true rfl)⟩ [] rfl rfl (Nat.le_of_ble_eq_true rfl) dX7_refusedRhythms_16 ⟨(Nat.le_of_ble_eq_true rfl), (Nat.le_of_ble_eq_true rfl)⟩ rfl (fun r w1 H locs hQ V => ?_)
    rcases hQ with ⟨rfl, rfl, f_5, f_6⟩ | ⟨rfl, rfl, f_7⟩
    · have V : gW D T A s [(o, .inr (7, [.ref n0, .ref s0, .ref im, .ref iz, .ref rw, .ref t0, .ref u0, .ref h0, .ref y0, sv])), (rw, .inl (T 5, 4, .inr (.inr (.inr (.inr (va_up (va_up (va_up (va_up (fun _ => none) 0 (some ra0)) 1 (some rb0)) 2 (some rc0)) 3 (some rd0))))))), (ra0, .inr (1, [.int rah, .int (nI raz), .ref ra1, .int (nI ras)])), (ra1, .inl (T 1, 40, .inr (.inl raf))), (rb0, .inr (1, [.int rbh, .int (nI rbz), .ref rb1, .int (nI rbs)])), (rb1, .inl (T 1, 40, .inr (.inl rbf))), (rc0, .inr (1, [.int rch, .int (nI rcz), .ref rc1, .int (nI rcs)])), (rc1, .inl (T 1, 40, .inr (.inl rcf))), (rd0, .inr (1, [.int rdh, .int (nI rdz), .ref rd1, .int (nI rds)])), (rd1, .inl (T 1, 40, .inr (.inl rdf))), (n0, .inr (5, [.int (nI nn), .int nm, .int nl, .int no, .int nu, .ref n1, .ref n2, .ref n3, .ref n4, .ref n5, .ref n6, .ref n7, .ref n8, .ref n9, .ref n10]))] H locs := V _ [] rfl rfl rfl (by decide +kernel) rfl
      show W p l e _ s m args below meth c H locs _ _ _ (F0 m 19 ls [.int (nI 1)])
      obtain ⟨i, hi1, hi2, ei⟩ := g_rng (by first | decide | omega) (by first | decide | omega) f_5 f_6
      rw [ei] at hl
      refine lv_if_eq (tgt := 26) hx hb dX7_refusedRhythms_19 (by decide) (fun c => absurd (show (nI 1) = 0 from c) (by decide +kernel)) (fun _ => ?_)
      refine lv_iconst (v := (nI 0)) hx hb dX7_refusedRhythms_22 (by decide +kernel) ?_
      refine lv_goto (tgt := 28) hx hb dX7_refusedRhythms_23 (by decide) ?_
      exact g_iret (Qr := (q_x_refusedRhythms T o row le n0 s0 im iz rw t0 u0 h0 y0 sv ra0 rb0 rc0 rd0 rah raz ra1 ras raf rbh rbz rb1 rbs rbf rch rcz rc1 rcs rcf rdh rdz rd1 rds rdf nn nm nl no nu n1 n2 n3 n4 n5 n6 n7 n8 n9 n10)) hC V ⟨(Nat.le_of_ble_eq_true rfl), (Nat.le_of_ble_eq_true rfl)⟩ (.inl ⟨i, rfl, rfl, (by assumption), (by assumption), (by assumption), (by assumption), (by assumption)⟩) dX7_refusedRhythms_28
    · have V : gW D T A s [(o, .inr (7, [.ref n0, .ref s0, .ref im, .ref iz, .ref rw, .ref t0, .ref u0, .ref h0, .ref y0, sv])), (rw, .inl (T 5, 4, .inr (.inr (.inr (.inr (va_up (va_up (va_up (va_up (fun _ => none) 0 (some ra0)) 1 (some rb0)) 2 (some rc0)) 3 (some rd0))))))), (ra0, .inr (1, [.int rah, .int (nI raz), .ref ra1, .int (nI ras)])), (ra1, .inl (T 1, 40, .inr (.inl raf))), (rb0, .inr (1, [.int rbh, .int (nI rbz), .ref rb1, .int (nI rbs)])), (rb1, .inl (T 1, 40, .inr (.inl rbf))), (rc0, .inr (1, [.int rch, .int (nI rcz), .ref rc1, .int (nI rcs)])), (rc1, .inl (T 1, 40, .inr (.inl rcf))), (rd0, .inr (1, [.int rdh, .int (nI rdz), .ref rd1, .int (nI rds)])), (rd1, .inl (T 1, 40, .inr (.inl rdf))), (n0, .inr (5, [.int (nI nn), .int nm, .int nl, .int no, .int nu, .ref n1, .ref n2, .ref n3, .ref n4, .ref n5, .ref n6, .ref n7, .ref n8, .ref n9, .ref n10]))] H locs := V _ [] rfl rfl rfl (by decide +kernel) rfl
      show W p l e _ s m args below meth c H locs _ _ _ (F0 m 19 ls [.int (nI 0)])
      refine lv_if_eq (tgt := 26) hx hb dX7_refusedRhythms_19 (by decide) (fun _ => ?_) (fun c => absurd (show (nI 0) = 0 by decide +kernel) c)
      refine lv_bipush (v := (-3)) hx hb dX7_refusedRhythms_26 (by decide +kernel) ?_
      exact g_iret (Qr := (q_x_refusedRhythms T o row le n0 s0 im iz rw t0 u0 h0 y0 sv ra0 rb0 rc0 rd0 rah raz ra1 ras raf rbh rbz rb1 rbs rbf rch rcz rc1 rcs rcf rdh rdz rd1 rds rdf nn nm nl no nu n1 n2 n3 n4 n5 n6 n7 n8 n9 n10)) hC V ⟨(Nat.le_of_ble_eq_true rfl), (Nat.le_of_ble_eq_true rfl)⟩ (.inr ⟨(-3), rfl, rfl, (by decide +kernel)⟩) dX7_refusedRhythms_28
  · have V : gW D T A s [(o, .inr (7, [.ref n0, .ref s0, .ref im, .ref iz, .ref rw, .ref t0, .ref u0, .ref h0, .ref y0, sv])), (rw, .inl (T 5, 4, .inr (.inr (.inr (.inr (va_up (va_up (va_up (va_up (fun _ => none) 0 (some ra0)) 1 (some rb0)) 2 (some rc0)) 3 (some rd0))))))), (ra0, .inr (1, [.int rah, .int (nI raz), .ref ra1, .int (nI ras)])), (ra1, .inl (T 1, 40, .inr (.inl raf))), (rb0, .inr (1, [.int rbh, .int (nI rbz), .ref rb1, .int (nI rbs)])), (rb1, .inl (T 1, 40, .inr (.inl rbf))), (rc0, .inr (1, [.int rch, .int (nI rcz), .ref rc1, .int (nI rcs)])), (rc1, .inl (T 1, 40, .inr (.inl rcf))), (rd0, .inr (1, [.int rdh, .int (nI rdz), .ref rd1, .int (nI rds)])), (rd1, .inl (T 1, 40, .inr (.inl rdf))), (n0, .inr (5, [.int (nI nn), .int nm, .int nl, .int no, .int nu, .ref n1, .ref n2, .ref n3, .ref n4, .ref n5, .ref n6, .ref n7, .ref n8, .ref n9, .ref n10]))] H locs := V
    show W p l e _ s m args below meth c H locs _ _ _ (F0 m 5 ls [.int z_3])
    refine lv_istore_n (lv' := [(3, .int z_3), (0, .ref o), (1, .int row), (2, .int le)]) hx hb dX7_refusedRhythms_5 rfl hl (by decide) rfl (fun ls hl => ?_)
    refine lv_iload_n hx hb dX7_refusedRhythms_6 rfl (lv_at hl 0 rfl) ?_
    refine lv_if_eq (tgt := 12) hx hb dX7_refusedRhythms_7 (by decide) (fun c_8 => ?_) (fun c_8 => ?_)
    · skip
      exact (absurd c_8 (by assumption) : False).elim
    · skip
      refine lv_iload_n hx hb dX7_refusedRhythms_10 rfl (lv_at hl 0 rfl) ?_
      exact g_iret (Qr := (q_x_refusedRhythms T o row le n0 s0 im iz rw t0 u0 h0 y0 sv ra0 rb0 rc0 rd0 rah raz ra1 ras raf rbh rbz rb1 rbs rbf rch rcz rc1 rcs rcf rdh rdz rd1 rds rdf nn nm nl no nu n1 n2 n3 n4 n5 n6 n7 n8 n9 n10)) hC V ⟨(Nat.le_of_ble_eq_true rfl), (Nat.le_of_ble_eq_true rfl)⟩ (.inr ⟨z_3, rfl, rfl, (by first | assumption | omega)⟩) dX7_refusedRhythms_11

def q_x_holds (T : Nat → ClassId) (o : Nat) (row : Int32) (le : Int32) (wh : Int32) (n0 : Nat) (s0 : Nat) (im : Nat) (iz : Nat) (rw : Nat) (t0 : Nat) (u0 : Nat) (h0 : Nat) (y0 : Nat) (sv : Value) (ra0 : Nat) (rb0 : Nat) (rc0 : Nat) (rd0 : Nat) (rah : Int32) (raz : Nat) (ra1 : Nat) (ras : Nat) (raf : Nat → Int64) (rbh : Int32) (rbz : Nat) (rb1 : Nat) (rbs : Nat) (rbf : Nat → Int64) (rch : Int32) (rcz : Nat) (rc1 : Nat) (rcs : Nat) (rcf : Nat → Int64) (rdh : Int32) (rdz : Nat) (rd1 : Nat) (rds : Nat) (rdf : Nat → Int64) (h1 : Nat) (qx : Int32) (qy : Int32) (ql : Int32) (h2 : Nat) (h3 : Nat) (qb : Nat → Int32) (qp : Nat → Int32) (qc : Nat → Int32) (nn : Nat) (nm : Int32) (nl : Int32) (no : Int32) (nu : Int32) (n1 : Nat) (n2 : Nat) (n3 : Nat) (n4 : Nat) (n5 : Nat) (n6 : Nat) (n7 : Nat) (n8 : Nat) (n9 : Nat) (n10 : Nat) (nf1 : Nat → Int32) (nf2 : Nat → Int32) (nf3 : Nat → Int32) (nf4 : Nat → Int32) (nf5 : Nat → Int32) (nf9 : Nat → Int32) : Option Value → va_W → Prop := fun rr ww => (∃ (z : Int32) (x1 : Int32) (x2 : Int32) (x3 : Int32) (k1 : Nat → Int32) (k2 : Nat → Int32) (k3 : Nat → Int32), rr = some (.int z) ∧ ww = [(o, .inr (7, [.ref n0, .ref s0, .ref im, .ref iz, .ref rw, .ref t0, .ref u0, .ref h0, .ref y0, sv])), (rw, .inl (T 5, 4, .inr (.inr (.inr (.inr (va_up (va_up (va_up (va_up (fun _ => none) 0 (some ra0)) 1 (some rb0)) 2 (some rc0)) 3 (some rd0))))))), (ra0, .inr (1, [.int rah, .int (nI raz), .ref ra1, .int (nI ras)])), (ra1, .inl (T 1, 40, .inr (.inl raf))), (rb0, .inr (1, [.int rbh, .int (nI rbz), .ref rb1, .int (nI rbs)])), (rb1, .inl (T 1, 40, .inr (.inl rbf))), (rc0, .inr (1, [.int rch, .int (nI rcz), .ref rc1, .int (nI rcs)])), (rc1, .inl (T 1, 40, .inr (.inl rcf))), (rd0, .inr (1, [.int rdh, .int (nI rdz), .ref rd1, .int (nI rds)])), (rd1, .inl (T 1, 40, .inr (.inl rdf))), (h0, .inr (3, [.ref h1, .int x1, .int x2, .int x3, .ref h2, .ref h3])), (h1, .inl (T 0, 10, .inl k1)), (h2, .inl (T 0, 10, .inl k2)), (h3, .inl (T 0, 12, .inl k3)), (n0, .inr (5, [.int (nI nn), .int nm, .int nl, .int no, .int nu, .ref n1, .ref n2, .ref n3, .ref n4, .ref n5, .ref n6, .ref n7, .ref n8, .ref n9, .ref n10])), (n1, .inl (T 0, 10, .inl nf1)), (n2, .inl (T 0, 10, .inl nf2)), (n3, .inl (T 0, 10, .inl nf3)), (n4, .inl (T 0, 10, .inl nf4)), (n5, .inl (T 0, 10, .inl nf5)), (n9, .inl (T 0, 10, .inl nf9))])
set_option maxHeartbeats 4000000 in
set_option maxRecDepth 100000 in
theorem x_holds (l : Launch) (D : va_G) (T : Nat → ClassId) (o : Nat) (row : Int32) (le : Int32) (wh : Int32) (n0 : Nat) (s0 : Nat) (im : Nat) (iz : Nat) (rw : Nat) (t0 : Nat) (u0 : Nat) (h0 : Nat) (y0 : Nat) (sv : Value) (ra0 : Nat) (rb0 : Nat) (rc0 : Nat) (rd0 : Nat) (rah : Int32) (raz : Nat) (ra1 : Nat) (ras : Nat) (raf : Nat → Int64) (rbh : Int32) (rbz : Nat) (rb1 : Nat) (rbs : Nat) (rbf : Nat → Int64) (rch : Int32) (rcz : Nat) (rc1 : Nat) (rcs : Nat) (rcf : Nat → Int64) (rdh : Int32) (rdz : Nat) (rd1 : Nat) (rds : Nat) (rdf : Nat → Int64) (h1 : Nat) (qx : Int32) (qy : Int32) (ql : Int32) (h2 : Nat) (h3 : Nat) (qb : Nat → Int32) (qp : Nat → Int32) (qc : Nat → Int32) (nn : Nat) (nm : Int32) (nl : Int32) (no : Int32) (nu : Int32) (n1 : Nat) (n2 : Nat) (n3 : Nat) (n4 : Nat) (n5 : Nat) (n6 : Nat) (n7 : Nat) (n8 : Nat) (n9 : Nat) (n10 : Nat) (nf1 : Nat → Int32) (nf2 : Nat → Int32) (nf3 : Nat → Int32) (nf4 : Nat → Int32) (nf5 : Nat → Int32) (nf9 : Nat → Int32) (h_n : nn ≤ 10) (h_t : ∀ i, i < nn → bd (nf9 i) nn) (h_zra : raz ≤ 40) (h_zrb : rbz ≤ 40) (h_zrc : rcz ≤ 40) (h_zrd : rdz ≤ 40) (h_sra : ras ≤ 3) (h_srb : rbs ≤ 3) (h_src : rcs ≤ 3) (h_srd : rds ≤ 3) : Ct l yX7_holds cX7_holds 5 (some .int) 4 0 0 D T [.ref o, .int row, .int le, .int wh] [(o, .inr (7, [.ref n0, .ref s0, .ref im, .ref iz, .ref rw, .ref t0, .ref u0, .ref h0, .ref y0, sv])), (rw, .inl (T 5, 4, .inr (.inr (.inr (.inr (va_up (va_up (va_up (va_up (fun _ => none) 0 (some ra0)) 1 (some rb0)) 2 (some rc0)) 3 (some rd0))))))), (ra0, .inr (1, [.int rah, .int (nI raz), .ref ra1, .int (nI ras)])), (ra1, .inl (T 1, 40, .inr (.inl raf))), (rb0, .inr (1, [.int rbh, .int (nI rbz), .ref rb1, .int (nI rbs)])), (rb1, .inl (T 1, 40, .inr (.inl rbf))), (rc0, .inr (1, [.int rch, .int (nI rcz), .ref rc1, .int (nI rcs)])), (rc1, .inl (T 1, 40, .inr (.inl rcf))), (rd0, .inr (1, [.int rdh, .int (nI rdz), .ref rd1, .int (nI rds)])), (rd1, .inl (T 1, 40, .inr (.inl rdf))), (h0, .inr (3, [.ref h1, .int qx, .int qy, .int ql, .ref h2, .ref h3])), (h1, .inl (T 0, 10, .inl qb)), (h2, .inl (T 0, 10, .inl qp)), (h3, .inl (T 0, 12, .inl qc)), (n0, .inr (5, [.int (nI nn), .int nm, .int nl, .int no, .int nu, .ref n1, .ref n2, .ref n3, .ref n4, .ref n5, .ref n6, .ref n7, .ref n8, .ref n9, .ref n10])), (n1, .inl (T 0, 10, .inl nf1)), (n2, .inl (T 0, 10, .inl nf2)), (n3, .inl (T 0, 10, .inl nf3)), (n4, .inl (T 0, 10, .inl nf4)), (n5, .inl (T 0, 10, .inl nf5)), (n9, .inl (T 0, 10, .inl nf9))] (q_x_holds T o row le wh n0 s0 im iz rw t0 u0 h0 y0 sv ra0 rb0 rc0 rd0 rah raz ra1 ras raf rbh rbz rb1 rbs rbf rch rcz rc1 rcs rcf rdh rdz rd1 rds rdf h1 qx qy ql h2 h3 qb qp qc nn nm nl no nu n1 n2 n3 n4 n5 n6 n7 n8 n9 n10 nf1 nf2 nf3 nf4 nf5 nf9) := by
  refine Ct.of (cc := cX7_holds) (maxL := 5) (ret := (some .int)) (by decide) (Nat.le_of_ble_eq_true rfl) ?_
  intro p e s m args below meth c A ls hC hnm V hl
  obtain ⟨hx, hb, hr, hml, hown, hts, hlocks⟩ := id hC
  generalize hH : s.heap = H at V ⊢
  clear hH
  have hl : lv_has ls 5 [(0, .ref o), (1, .int row), (2, .int le), (3, .int wh)] := hl
  generalize hlo : ([] : List Loc) = locs at V ⊢
  clear hlo
  refine lv_iload_n hx hb dX7_holds_0 rfl (lv_at hl 1 rfl) ?_
  refine g_callSU (nA := 1) hC V hl.1 (c_isRow l D T row) w_501 w_502 w_2 w_503 (by decide +kernel) rfl ⟨(Nat.le_of_ble_eq_true rfl), (Nat.le_of_ble_eq_true rfl)⟩ [] rfl rfl (Nat.le_of_ble_eq_true rfl) dX7_holds_1 ⟨(Nat.le_of_ble_eq_true rfl), (Nat.le_of_ble_eq_true rfl)⟩ rfl (fun r w1 H locs hQ V => ?_)
  rcases hQ with ⟨rfl, rfl, f_1, f_2⟩ | ⟨rfl, rfl, f_3⟩
  · have V : gW D T A s [(o, .inr (7, [.ref n0, .ref s0, .ref im, .ref iz, .ref rw, .ref t0, .ref u0, .ref h0, .ref y0, sv])), (rw, .inl (T 5, 4, .inr (.inr (.inr (.inr (va_up (va_up (va_up (va_up (fun _ => none) 0 (some ra0)) 1 (some rb0)) 2 (some rc0)) 3 (some rd0))))))), (ra0, .inr (1, [.int rah, .int (nI raz), .ref ra1, .int (nI ras)])), (ra1, .inl (T 1, 40, .inr (.inl raf))), (rb0, .inr (1, [.int rbh, .int (nI rbz), .ref rb1, .int (nI rbs)])), (rb1, .inl (T 1, 40, .inr (.inl rbf))), (rc0, .inr (1, [.int rch, .int (nI rcz), .ref rc1, .int (nI rcs)])), (rc1, .inl (T 1, 40, .inr (.inl rcf))), (rd0, .inr (1, [.int rdh, .int (nI rdz), .ref rd1, .int (nI rds)])), (rd1, .inl (T 1, 40, .inr (.inl rdf))), (h0, .inr (3, [.ref h1, .int qx, .int qy, .int ql, .ref h2, .ref h3])), (h1, .inl (T 0, 10, .inl qb)), (h2, .inl (T 0, 10, .inl qp)), (h3, .inl (T 0, 12, .inl qc)), (n0, .inr (5, [.int (nI nn), .int nm, .int nl, .int no, .int nu, .ref n1, .ref n2, .ref n3, .ref n4, .ref n5, .ref n6, .ref n7, .ref n8, .ref n9, .ref n10])), (n1, .inl (T 0, 10, .inl nf1)), (n2, .inl (T 0, 10, .inl nf2)), (n3, .inl (T 0, 10, .inl nf3)), (n4, .inl (T 0, 10, .inl nf4)), (n5, .inl (T 0, 10, .inl nf5)), (n9, .inl (T 0, 10, .inl nf9))] H locs := V _ [] rfl rfl rfl (by decide +kernel) rfl
    show W p l e _ s m args below meth c H locs _ _ _ (F0 m 4 ls [.int (nI 1)])
    refine lv_if_eq (tgt := 16) hx hb dX7_holds_4 (by decide) (fun c => absurd (show (nI 1) = 0 from c) (by decide +kernel)) (fun _ => ?_)
    refine lv_iload_n hx hb dX7_holds_7 rfl (lv_at hl 3 rfl) ?_
    refine lv_iconst (v := (nI 0)) hx hb dX7_holds_8 (by decide +kernel) ?_
    refine lv_iconst (v := (nI 1)) hx hb dX7_holds_9 (by decide +kernel) ?_
    refine g_callSU (nA := 3) hC V hl.1 (c_isWithin l D T wh (nI 0) (nI 1)) w_292 w_293 w_2 w_294 (by decide +kernel) rfl ⟨(Nat.le_of_ble_eq_true rfl), (Nat.le_of_ble_eq_true rfl)⟩ [] rfl rfl (Nat.le_of_ble_eq_true rfl) dX7_holds_10 ⟨(Nat.le_of_ble_eq_true rfl), (Nat.le_of_ble_eq_true rfl)⟩ rfl (fun r w1 H locs hQ V => ?_)
    rcases hQ with ⟨rfl, rfl, f_4, f_5⟩ | ⟨rfl, rfl, f_6⟩
    · have V : gW D T A s [(o, .inr (7, [.ref n0, .ref s0, .ref im, .ref iz, .ref rw, .ref t0, .ref u0, .ref h0, .ref y0, sv])), (rw, .inl (T 5, 4, .inr (.inr (.inr (.inr (va_up (va_up (va_up (va_up (fun _ => none) 0 (some ra0)) 1 (some rb0)) 2 (some rc0)) 3 (some rd0))))))), (ra0, .inr (1, [.int rah, .int (nI raz), .ref ra1, .int (nI ras)])), (ra1, .inl (T 1, 40, .inr (.inl raf))), (rb0, .inr (1, [.int rbh, .int (nI rbz), .ref rb1, .int (nI rbs)])), (rb1, .inl (T 1, 40, .inr (.inl rbf))), (rc0, .inr (1, [.int rch, .int (nI rcz), .ref rc1, .int (nI rcs)])), (rc1, .inl (T 1, 40, .inr (.inl rcf))), (rd0, .inr (1, [.int rdh, .int (nI rdz), .ref rd1, .int (nI rds)])), (rd1, .inl (T 1, 40, .inr (.inl rdf))), (h0, .inr (3, [.ref h1, .int qx, .int qy, .int ql, .ref h2, .ref h3])), (h1, .inl (T 0, 10, .inl qb)), (h2, .inl (T 0, 10, .inl qp)), (h3, .inl (T 0, 12, .inl qc)), (n0, .inr (5, [.int (nI nn), .int nm, .int nl, .int no, .int nu, .ref n1, .ref n2, .ref n3, .ref n4, .ref n5, .ref n6, .ref n7, .ref n8, .ref n9, .ref n10])), (n1, .inl (T 0, 10, .inl nf1)), (n2, .inl (T 0, 10, .inl nf2)), (n3, .inl (T 0, 10, .inl nf3)), (n4, .inl (T 0, 10, .inl nf4)), (n5, .inl (T 0, 10, .inl nf5)), (n9, .inl (T 0, 10, .inl nf9))] H locs := V _ [] rfl rfl rfl (by decide +kernel) rfl
      show W p l e _ s m args below meth c H locs _ _ _ (F0 m 13 ls [.int (nI 1)])
      refine lv_if_ne (tgt := 19) hx hb dX7_holds_13 (by decide) (fun _ => ?_) (fun c => absurd (show (nI 1) = 0 from c) (by decide +kernel))
      refine lv_aload_n hx hb dX7_holds_19 rfl (lv_at hl 0 rfl) ?_
      refine lv_iload_n hx hb dX7_holds_20 rfl (lv_at hl 1 rfl) ?_
      refine lv_iload_n hx hb dX7_holds_21 rfl (lv_at hl 2 rfl) ?_
      refine g_callVU (nA := 2) hC V hl.1 (x_refusedRhythms l D T o row le n0 s0 im iz rw t0 u0 h0 y0 sv ra0 rb0 rc0 rd0 rah raz ra1 ras raf rbh rbz rb1 rbs rbf rch rcz rc1 rcs rcf rdh rdz rd1 rds rdf nn nm nl no nu n1 n2 n3 n4 n5 n6 n7 n8 n9 n10 (by first | assumption | omega) (by first | assumption | omega) (by first | assumption | omega) (by first | assumption | omega) (by first | assumption | omega) (by first | assumption | omega) (by first | assumption | omega) (by first | assumption | omega) (by first | assumption | omega)) w_594 w_596 w_s15 w_2 w_597 (by decide +kernel) rfl ⟨(Nat.le_of_ble_eq_true rfl), (Nat.le_of_ble_eq_true rfl)⟩ 0 (ci := 7) rfl rfl [0, 1, 2, 3, 4, 5, 6, 7, 8, 9, 14] rfl rfl (Nat.le_of_ble_eq_true rfl) dX7_holds_22 ⟨(Nat.le_of_ble_eq_true rfl), (Nat.le_of_ble_eq_true rfl)⟩ rfl (fun r w1 H locs hQ V => ?_)
      rcases hQ with ⟨j_7, rfl, rfl, f_8, f_9, f_10, f_11, f_12⟩ | ⟨z_13, rfl, rfl, f_14⟩
      · have V : gW D T A s [(o, .inr (7, [.ref n0, .ref s0, .ref im, .ref iz, .ref rw, .ref t0, .ref u0, .ref h0, .ref y0, sv])), (rw, .inl (T 5, 4, .inr (.inr (.inr (.inr (va_up (va_up (va_up (va_up (fun _ => none) 0 (some ra0)) 1 (some rb0)) 2 (some rc0)) 3 (some rd0))))))), (ra0, .inr (1, [.int rah, .int (nI raz), .ref ra1, .int (nI ras)])), (ra1, .inl (T 1, 40, .inr (.inl raf))), (rb0, .inr (1, [.int rbh, .int (nI rbz), .ref rb1, .int (nI rbs)])), (rb1, .inl (T 1, 40, .inr (.inl rbf))), (rc0, .inr (1, [.int rch, .int (nI rcz), .ref rc1, .int (nI rcs)])), (rc1, .inl (T 1, 40, .inr (.inl rcf))), (rd0, .inr (1, [.int rdh, .int (nI rdz), .ref rd1, .int (nI rds)])), (rd1, .inl (T 1, 40, .inr (.inl rdf))), (h0, .inr (3, [.ref h1, .int qx, .int qy, .int ql, .ref h2, .ref h3])), (h1, .inl (T 0, 10, .inl qb)), (h2, .inl (T 0, 10, .inl qp)), (h3, .inl (T 0, 12, .inl qc)), (n0, .inr (5, [.int (nI nn), .int nm, .int nl, .int no, .int nu, .ref n1, .ref n2, .ref n3, .ref n4, .ref n5, .ref n6, .ref n7, .ref n8, .ref n9, .ref n10])), (n1, .inl (T 0, 10, .inl nf1)), (n2, .inl (T 0, 10, .inl nf2)), (n3, .inl (T 0, 10, .inl nf3)), (n4, .inl (T 0, 10, .inl nf4)), (n5, .inl (T 0, 10, .inl nf5)), (n9, .inl (T 0, 10, .inl nf9))] H locs := V _ [0, 0, 0, 0, 0, 0, 0, 0, 0, 0, 4] rfl rfl rfl (by decide +kernel) rfl
        show W p l e _ s m args below meth c H locs _ _ _ (F0 m 25 ls [.int (nI 0)])
        rw [f_12] at hl
        obtain ⟨j_15, hj_15, ej_15⟩ := g_idx (n := 4) (by decide) f_8 f_9
        rw [ej_15] at hl
        have hj_15 : j_15 = 0 ∨ j_15 = 1 ∨ j_15 = 2 ∨ j_15 = 3 := by omega
        rcases hj_15 with rfl | rfl | rfl | rfl
        · skip
          refine lv_istore (lv' := [(4, .int (nI 0)), (0, .ref o), (1, .int (nI 0)), (2, .int (nI j_7)), (3, .int wh)]) hx hb dX7_holds_25 hl (by decide) rfl (fun ls hl => ?_)
          refine lv_iload hx hb dX7_holds_27 (lv_at hl 0 rfl) ?_
          refine lv_if_eq (tgt := 35) hx hb dX7_holds_29 (by decide) (fun _ => ?_) (fun c => absurd (show (nI 0) = 0 by decide +kernel) c)
          refine lv_aload_n hx hb dX7_holds_35 rfl (lv_at hl 1 rfl) ?_
          refine g_get hC V (ci := 7) uwX7 0 rfl rfl 7 (by decide) w_256 rfl rfl dX7_holds_36 ?_
          refine lv_aload_n hx hb dX7_holds_39 rfl (lv_at hl 1 rfl) ?_
          refine g_get hC V (ci := 7) uwX7 0 rfl rfl 4 (by decide) w_253 rfl rfl dX7_holds_40 ?_
          refine lv_iload_n hx hb dX7_holds_43 rfl (lv_at hl 2 rfl) ?_
          refine g_aald hC V 1 5 rfl rfl (vp_in_nI (by decide) (by decide)) (v := .ref ra0) (by rw [nI_clamp (by decide)]; rfl) dX7_holds_44 ?_
          refine lv_iload_n hx hb dX7_holds_45 rfl (lv_at hl 3 rfl) ?_
          refine g_callVU (nA := 2) hC V hl.1 (h_takeRow l D T h0 ra0 j_7 h1 qx qy ql h2 h3 qp rah raz ra1 ras raf) w_602 w_603 w_604 w_6 w_605 (by decide +kernel) rfl ⟨(Nat.le_of_ble_eq_true rfl), (Nat.le_of_ble_eq_true rfl)⟩ 10 (ci := 3) rfl rfl [10, 12, 2, 3] rfl rfl (Nat.le_of_ble_eq_true rfl) dX7_holds_46 ⟨(Nat.le_of_ble_eq_true rfl), (Nat.le_of_ble_eq_true rfl)⟩ rfl (fun r w1 H locs hQ V => ?_)
          obtain ⟨g_16, rfl, rfl⟩ := hQ
          have V : gW D T A s [(o, .inr (7, [.ref n0, .ref s0, .ref im, .ref iz, .ref rw, .ref t0, .ref u0, .ref h0, .ref y0, sv])), (rw, .inl (T 5, 4, .inr (.inr (.inr (.inr (va_up (va_up (va_up (va_up (fun _ => none) 0 (some ra0)) 1 (some rb0)) 2 (some rc0)) 3 (some rd0))))))), (ra0, .inr (1, [.int rah, .int (nI raz), .ref ra1, .int (nI ras)])), (ra1, .inl (T 1, 40, .inr (.inl raf))), (rb0, .inr (1, [.int rbh, .int (nI rbz), .ref rb1, .int (nI rbs)])), (rb1, .inl (T 1, 40, .inr (.inl rbf))), (rc0, .inr (1, [.int rch, .int (nI rcz), .ref rc1, .int (nI rcs)])), (rc1, .inl (T 1, 40, .inr (.inl rcf))), (rd0, .inr (1, [.int rdh, .int (nI rdz), .ref rd1, .int (nI rds)])), (rd1, .inl (T 1, 40, .inr (.inl rdf))), (h0, .inr (3, [.ref h1, .int qx, .int qy, .int (nI j_7), .ref h2, .ref h3])), (h1, .inl (T 0, 10, .inl qb)), (h2, .inl (T 0, 10, .inl g_16)), (h3, .inl (T 0, 12, .inl qc)), (n0, .inr (5, [.int (nI nn), .int nm, .int nl, .int no, .int nu, .ref n1, .ref n2, .ref n3, .ref n4, .ref n5, .ref n6, .ref n7, .ref n8, .ref n9, .ref n10])), (n1, .inl (T 0, 10, .inl nf1)), (n2, .inl (T 0, 10, .inl nf2)), (n3, .inl (T 0, 10, .inl nf3)), (n4, .inl (T 0, 10, .inl nf4)), (n5, .inl (T 0, 10, .inl nf5)), (n9, .inl (T 0, 10, .inl nf9))] H locs := V _ [2, 0, 6, 1] rfl rfl rfl (by decide +kernel) rfl
          show W p l e _ s m args below meth c H locs _ _ _ (F0 m 49 ls [])
          refine lv_aload_n hx hb dX7_holds_49 rfl (lv_at hl 1 rfl) ?_
          refine g_get hC V (ci := 7) uwX7 0 rfl rfl 7 (by decide) w_256 rfl rfl dX7_holds_50 ?_
          refine lv_aload_n hx hb dX7_holds_53 rfl (lv_at hl 1 rfl) ?_
          refine g_get hC V (ci := 7) uwX7 0 rfl rfl 0 (by decide) w_249 rfl rfl dX7_holds_54 ?_
          refine g_callVU (nA := 1) hC V hl.1 (h_judgeOn l D T h0 n0 h1 qx qy j_7 h2 h3 g_16 qc nn nm nl no nu n1 n2 n3 n4 n5 n6 n7 n8 n9 n10 nf1 nf2 nf3 nf4 nf5 nf9 (by first | assumption | omega) ⟨by omega, by omega⟩) w_610 w_611 w_612 w_6 w_613 (by decide +kernel) rfl ⟨(Nat.le_of_ble_eq_true rfl), (Nat.le_of_ble_eq_true rfl)⟩ 10 (ci := 3) rfl rfl [10, 12, 13, 14, 15, 16, 17, 18, 19, 20] rfl rfl (Nat.le_of_ble_eq_true rfl) dX7_holds_57 ⟨(Nat.le_of_ble_eq_true rfl), (Nat.le_of_ble_eq_true rfl)⟩ rfl (fun r w1 H locs hQ V => ?_)
          obtain ⟨x1_17, x2_18, g_19, rfl, rfl⟩ := hQ
          have V : gW D T A s [(o, .inr (7, [.ref n0, .ref s0, .ref im, .ref iz, .ref rw, .ref t0, .ref u0, .ref h0, .ref y0, sv])), (rw, .inl (T 5, 4, .inr (.inr (.inr (.inr (va_up (va_up (va_up (va_up (fun _ => none) 0 (some ra0)) 1 (some rb0)) 2 (some rc0)) 3 (some rd0))))))), (ra0, .inr (1, [.int rah, .int (nI raz), .ref ra1, .int (nI ras)])), (ra1, .inl (T 1, 40, .inr (.inl raf))), (rb0, .inr (1, [.int rbh, .int (nI rbz), .ref rb1, .int (nI rbs)])), (rb1, .inl (T 1, 40, .inr (.inl rbf))), (rc0, .inr (1, [.int rch, .int (nI rcz), .ref rc1, .int (nI rcs)])), (rc1, .inl (T 1, 40, .inr (.inl rcf))), (rd0, .inr (1, [.int rdh, .int (nI rdz), .ref rd1, .int (nI rds)])), (rd1, .inl (T 1, 40, .inr (.inl rdf))), (h0, .inr (3, [.ref h1, .int x1_17, .int x2_18, .int (nI j_7), .ref h2, .ref h3])), (h1, .inl (T 0, 10, .inl qb)), (h2, .inl (T 0, 10, .inl g_16)), (h3, .inl (T 0, 12, .inl g_19)), (n0, .inr (5, [.int (nI nn), .int nm, .int nl, .int no, .int nu, .ref n1, .ref n2, .ref n3, .ref n4, .ref n5, .ref n6, .ref n7, .ref n8, .ref n9, .ref n10])), (n1, .inl (T 0, 10, .inl nf1)), (n2, .inl (T 0, 10, .inl nf2)), (n3, .inl (T 0, 10, .inl nf3)), (n4, .inl (T 0, 10, .inl nf4)), (n5, .inl (T 0, 10, .inl nf5)), (n9, .inl (T 0, 10, .inl nf9))] H locs := V _ [10, 1, 0, 0, 0, 0, 0, 0, 0, 0] rfl rfl rfl (by decide +kernel) rfl
          show W p l e _ s m args below meth c H locs _ _ _ (F0 m 60 ls [])
          refine lv_iload_n hx hb dX7_holds_60 rfl (lv_at hl 4 rfl) ?_
          refine lv_if_ne (tgt := 74) hx hb dX7_holds_61 (by decide) (fun c_20 => ?_) (fun c_20 => ?_)
          · skip
            refine lv_aload_n hx hb dX7_holds_74 rfl (lv_at hl 1 rfl) ?_
            refine g_get hC V (ci := 7) uwX7 0 rfl rfl 7 (by decide) w_256 rfl rfl dX7_holds_75 ?_
            refine g_get hC V (ci := 3) uwX3 10 rfl rfl 2 (by decide) w_188 rfl rfl dX7_holds_78 ?_
            exact g_iret (Qr := (q_x_holds T o row le wh n0 s0 im iz rw t0 u0 h0 y0 sv ra0 rb0 rc0 rd0 rah raz ra1 ras raf rbh rbz rb1 rbs rbf rch rcz rc1 rcs rcf rdh rdz rd1 rds rdf h1 qx qy ql h2 h3 qb qp qc nn nm nl no nu n1 n2 n3 n4 n5 n6 n7 n8 n9 n10 nf1 nf2 nf3 nf4 nf5 nf9)) hC V ⟨(Nat.le_of_ble_eq_true rfl), (Nat.le_of_ble_eq_true rfl)⟩ ⟨x2_18, x1_17, x2_18, (nI j_7), qb, g_16, g_19, rfl, rfl⟩ dX7_holds_81
          · skip
            refine lv_aload_n hx hb dX7_holds_64 rfl (lv_at hl 1 rfl) ?_
            refine g_get hC V (ci := 7) uwX7 0 rfl rfl 7 (by decide) w_256 rfl rfl dX7_holds_65 ?_
            refine g_get hC V (ci := 3) uwX3 10 rfl rfl 1 (by decide) w_186 rfl rfl dX7_holds_68 ?_
            refine lv_goto (tgt := 81) hx hb dX7_holds_71 (by decide) ?_
            exact g_iret (Qr := (q_x_holds T o row le wh n0 s0 im iz rw t0 u0 h0 y0 sv ra0 rb0 rc0 rd0 rah raz ra1 ras raf rbh rbz rb1 rbs rbf rch rcz rc1 rcs rcf rdh rdz rd1 rds rdf h1 qx qy ql h2 h3 qb qp qc nn nm nl no nu n1 n2 n3 n4 n5 n6 n7 n8 n9 n10 nf1 nf2 nf3 nf4 nf5 nf9)) hC V ⟨(Nat.le_of_ble_eq_true rfl), (Nat.le_of_ble_eq_true rfl)⟩ ⟨x1_17, x1_17, x2_18, (nI j_7), qb, g_16, g_19, rfl, rfl⟩ dX7_holds_81
        · skip
          refine lv_istore (lv' := [(4, .int (nI 0)), (0, .ref o), (1, .int (nI 1)), (2, .int (nI j_7)), (3, .int wh)]) hx hb dX7_holds_25 hl (by decide) rfl (fun ls hl => ?_)
          refine lv_iload hx hb dX7_holds_27 (lv_at hl 0 rfl) ?_
          refine lv_if_eq (tgt := 35) hx hb dX7_holds_29 (by decide) (fun _ => ?_) (fun c => absurd (show (nI 0) = 0 by decide +kernel) c)
          refine lv_aload_n hx hb dX7_holds_35 rfl (lv_at hl 1 rfl) ?_
          refine g_get hC V (ci := 7) uwX7 0 rfl rfl 7 (by decide) w_256 rfl rfl dX7_holds_36 ?_
          refine lv_aload_n hx hb dX7_holds_39 rfl (lv_at hl 1 rfl) ?_
          refine g_get hC V (ci := 7) uwX7 0 rfl rfl 4 (by decide) w_253 rfl rfl dX7_holds_40 ?_
          refine lv_iload_n hx hb dX7_holds_43 rfl (lv_at hl 2 rfl) ?_
          refine g_aald hC V 1 5 rfl rfl (vp_in_nI (by decide) (by decide)) (v := .ref rb0) (by rw [nI_clamp (by decide)]; rfl) dX7_holds_44 ?_
          refine lv_iload_n hx hb dX7_holds_45 rfl (lv_at hl 3 rfl) ?_
          refine g_callVU (nA := 2) hC V hl.1 (h_takeRow l D T h0 rb0 j_7 h1 qx qy ql h2 h3 qp rbh rbz rb1 rbs rbf) w_602 w_603 w_604 w_6 w_605 (by decide +kernel) rfl ⟨(Nat.le_of_ble_eq_true rfl), (Nat.le_of_ble_eq_true rfl)⟩ 10 (ci := 3) rfl rfl [10, 12, 4, 5] rfl rfl (Nat.le_of_ble_eq_true rfl) dX7_holds_46 ⟨(Nat.le_of_ble_eq_true rfl), (Nat.le_of_ble_eq_true rfl)⟩ rfl (fun r w1 H locs hQ V => ?_)
          obtain ⟨g_21, rfl, rfl⟩ := hQ
          have V : gW D T A s [(o, .inr (7, [.ref n0, .ref s0, .ref im, .ref iz, .ref rw, .ref t0, .ref u0, .ref h0, .ref y0, sv])), (rw, .inl (T 5, 4, .inr (.inr (.inr (.inr (va_up (va_up (va_up (va_up (fun _ => none) 0 (some ra0)) 1 (some rb0)) 2 (some rc0)) 3 (some rd0))))))), (ra0, .inr (1, [.int rah, .int (nI raz), .ref ra1, .int (nI ras)])), (ra1, .inl (T 1, 40, .inr (.inl raf))), (rb0, .inr (1, [.int rbh, .int (nI rbz), .ref rb1, .int (nI rbs)])), (rb1, .inl (T 1, 40, .inr (.inl rbf))), (rc0, .inr (1, [.int rch, .int (nI rcz), .ref rc1, .int (nI rcs)])), (rc1, .inl (T 1, 40, .inr (.inl rcf))), (rd0, .inr (1, [.int rdh, .int (nI rdz), .ref rd1, .int (nI rds)])), (rd1, .inl (T 1, 40, .inr (.inl rdf))), (h0, .inr (3, [.ref h1, .int qx, .int qy, .int (nI j_7), .ref h2, .ref h3])), (h1, .inl (T 0, 10, .inl qb)), (h2, .inl (T 0, 10, .inl g_21)), (h3, .inl (T 0, 12, .inl qc)), (n0, .inr (5, [.int (nI nn), .int nm, .int nl, .int no, .int nu, .ref n1, .ref n2, .ref n3, .ref n4, .ref n5, .ref n6, .ref n7, .ref n8, .ref n9, .ref n10])), (n1, .inl (T 0, 10, .inl nf1)), (n2, .inl (T 0, 10, .inl nf2)), (n3, .inl (T 0, 10, .inl nf3)), (n4, .inl (T 0, 10, .inl nf4)), (n5, .inl (T 0, 10, .inl nf5)), (n9, .inl (T 0, 10, .inl nf9))] H locs := V _ [4, 0, 4, 1] rfl rfl rfl (by decide +kernel) rfl
          show W p l e _ s m args below meth c H locs _ _ _ (F0 m 49 ls [])
          refine lv_aload_n hx hb dX7_holds_49 rfl (lv_at hl 1 rfl) ?_
          refine g_get hC V (ci := 7) uwX7 0 rfl rfl 7 (by decide) w_256 rfl rfl dX7_holds_50 ?_
          refine lv_aload_n hx hb dX7_holds_53 rfl (lv_at hl 1 rfl) ?_
          refine g_get hC V (ci := 7) uwX7 0 rfl rfl 0 (by decide) w_249 rfl rfl dX7_holds_54 ?_
          refine g_callVU (nA := 1) hC V hl.1 (h_judgeOn l D T h0 n0 h1 qx qy j_7 h2 h3 g_21 qc nn nm nl no nu n1 n2 n3 n4 n5 n6 n7 n8 n9 n10 nf1 nf2 nf3 nf4 nf5 nf9 (by first | assumption | omega) ⟨by omega, by omega⟩) w_610 w_611 w_612 w_6 w_613 (by decide +kernel) rfl ⟨(Nat.le_of_ble_eq_true rfl), (Nat.le_of_ble_eq_true rfl)⟩ 10 (ci := 3) rfl rfl [10, 12, 13, 14, 15, 16, 17, 18, 19, 20] rfl rfl (Nat.le_of_ble_eq_true rfl) dX7_holds_57 ⟨(Nat.le_of_ble_eq_true rfl), (Nat.le_of_ble_eq_true rfl)⟩ rfl (fun r w1 H locs hQ V => ?_)
          obtain ⟨x1_22, x2_23, g_24, rfl, rfl⟩ := hQ
          have V : gW D T A s [(o, .inr (7, [.ref n0, .ref s0, .ref im, .ref iz, .ref rw, .ref t0, .ref u0, .ref h0, .ref y0, sv])), (rw, .inl (T 5, 4, .inr (.inr (.inr (.inr (va_up (va_up (va_up (va_up (fun _ => none) 0 (some ra0)) 1 (some rb0)) 2 (some rc0)) 3 (some rd0))))))), (ra0, .inr (1, [.int rah, .int (nI raz), .ref ra1, .int (nI ras)])), (ra1, .inl (T 1, 40, .inr (.inl raf))), (rb0, .inr (1, [.int rbh, .int (nI rbz), .ref rb1, .int (nI rbs)])), (rb1, .inl (T 1, 40, .inr (.inl rbf))), (rc0, .inr (1, [.int rch, .int (nI rcz), .ref rc1, .int (nI rcs)])), (rc1, .inl (T 1, 40, .inr (.inl rcf))), (rd0, .inr (1, [.int rdh, .int (nI rdz), .ref rd1, .int (nI rds)])), (rd1, .inl (T 1, 40, .inr (.inl rdf))), (h0, .inr (3, [.ref h1, .int x1_22, .int x2_23, .int (nI j_7), .ref h2, .ref h3])), (h1, .inl (T 0, 10, .inl qb)), (h2, .inl (T 0, 10, .inl g_21)), (h3, .inl (T 0, 12, .inl g_24)), (n0, .inr (5, [.int (nI nn), .int nm, .int nl, .int no, .int nu, .ref n1, .ref n2, .ref n3, .ref n4, .ref n5, .ref n6, .ref n7, .ref n8, .ref n9, .ref n10])), (n1, .inl (T 0, 10, .inl nf1)), (n2, .inl (T 0, 10, .inl nf2)), (n3, .inl (T 0, 10, .inl nf3)), (n4, .inl (T 0, 10, .inl nf4)), (n5, .inl (T 0, 10, .inl nf5)), (n9, .inl (T 0, 10, .inl nf9))] H locs := V _ [10, 1, 0, 0, 0, 0, 0, 0, 0, 0] rfl rfl rfl (by decide +kernel) rfl
          show W p l e _ s m args below meth c H locs _ _ _ (F0 m 60 ls [])
          refine lv_iload_n hx hb dX7_holds_60 rfl (lv_at hl 4 rfl) ?_
          refine lv_if_ne (tgt := 74) hx hb dX7_holds_61 (by decide) (fun c_25 => ?_) (fun c_25 => ?_)
          · skip
            refine lv_aload_n hx hb dX7_holds_74 rfl (lv_at hl 1 rfl) ?_
            refine g_get hC V (ci := 7) uwX7 0 rfl rfl 7 (by decide) w_256 rfl rfl dX7_holds_75 ?_
            refine g_get hC V (ci := 3) uwX3 10 rfl rfl 2 (by decide) w_188 rfl rfl dX7_holds_78 ?_
            exact g_iret (Qr := (q_x_holds T o row le wh n0 s0 im iz rw t0 u0 h0 y0 sv ra0 rb0 rc0 rd0 rah raz ra1 ras raf rbh rbz rb1 rbs rbf rch rcz rc1 rcs rcf rdh rdz rd1 rds rdf h1 qx qy ql h2 h3 qb qp qc nn nm nl no nu n1 n2 n3 n4 n5 n6 n7 n8 n9 n10 nf1 nf2 nf3 nf4 nf5 nf9)) hC V ⟨(Nat.le_of_ble_eq_true rfl), (Nat.le_of_ble_eq_true rfl)⟩ ⟨x2_23, x1_22, x2_23, (nI j_7), qb, g_21, g_24, rfl, rfl⟩ dX7_holds_81
          · skip
            refine lv_aload_n hx hb dX7_holds_64 rfl (lv_at hl 1 rfl) ?_
            refine g_get hC V (ci := 7) uwX7 0 rfl rfl 7 (by decide) w_256 rfl rfl dX7_holds_65 ?_
            refine g_get hC V (ci := 3) uwX3 10 rfl rfl 1 (by decide) w_186 rfl rfl dX7_holds_68 ?_
            refine lv_goto (tgt := 81) hx hb dX7_holds_71 (by decide) ?_
            exact g_iret (Qr := (q_x_holds T o row le wh n0 s0 im iz rw t0 u0 h0 y0 sv ra0 rb0 rc0 rd0 rah raz ra1 ras raf rbh rbz rb1 rbs rbf rch rcz rc1 rcs rcf rdh rdz rd1 rds rdf h1 qx qy ql h2 h3 qb qp qc nn nm nl no nu n1 n2 n3 n4 n5 n6 n7 n8 n9 n10 nf1 nf2 nf3 nf4 nf5 nf9)) hC V ⟨(Nat.le_of_ble_eq_true rfl), (Nat.le_of_ble_eq_true rfl)⟩ ⟨x1_22, x1_22, x2_23, (nI j_7), qb, g_21, g_24, rfl, rfl⟩ dX7_holds_81
        · skip
          refine lv_istore (lv' := [(4, .int (nI 0)), (0, .ref o), (1, .int (nI 2)), (2, .int (nI j_7)), (3, .int wh)]) hx hb dX7_holds_25 hl (by decide) rfl (fun ls hl => ?_)
          refine lv_iload hx hb dX7_holds_27 (lv_at hl 0 rfl) ?_
          refine lv_if_eq (tgt := 35) hx hb dX7_holds_29 (by decide) (fun _ => ?_) (fun c => absurd (show (nI 0) = 0 by decide +kernel) c)
          refine lv_aload_n hx hb dX7_holds_35 rfl (lv_at hl 1 rfl) ?_
          refine g_get hC V (ci := 7) uwX7 0 rfl rfl 7 (by decide) w_256 rfl rfl dX7_holds_36 ?_
          refine lv_aload_n hx hb dX7_holds_39 rfl (lv_at hl 1 rfl) ?_
          refine g_get hC V (ci := 7) uwX7 0 rfl rfl 4 (by decide) w_253 rfl rfl dX7_holds_40 ?_
          refine lv_iload_n hx hb dX7_holds_43 rfl (lv_at hl 2 rfl) ?_
          refine g_aald hC V 1 5 rfl rfl (vp_in_nI (by decide) (by decide)) (v := .ref rc0) (by rw [nI_clamp (by decide)]; rfl) dX7_holds_44 ?_
          refine lv_iload_n hx hb dX7_holds_45 rfl (lv_at hl 3 rfl) ?_
          refine g_callVU (nA := 2) hC V hl.1 (h_takeRow l D T h0 rc0 j_7 h1 qx qy ql h2 h3 qp rch rcz rc1 rcs rcf) w_602 w_603 w_604 w_6 w_605 (by decide +kernel) rfl ⟨(Nat.le_of_ble_eq_true rfl), (Nat.le_of_ble_eq_true rfl)⟩ 10 (ci := 3) rfl rfl [10, 12, 6, 7] rfl rfl (Nat.le_of_ble_eq_true rfl) dX7_holds_46 ⟨(Nat.le_of_ble_eq_true rfl), (Nat.le_of_ble_eq_true rfl)⟩ rfl (fun r w1 H locs hQ V => ?_)
          obtain ⟨g_26, rfl, rfl⟩ := hQ
          have V : gW D T A s [(o, .inr (7, [.ref n0, .ref s0, .ref im, .ref iz, .ref rw, .ref t0, .ref u0, .ref h0, .ref y0, sv])), (rw, .inl (T 5, 4, .inr (.inr (.inr (.inr (va_up (va_up (va_up (va_up (fun _ => none) 0 (some ra0)) 1 (some rb0)) 2 (some rc0)) 3 (some rd0))))))), (ra0, .inr (1, [.int rah, .int (nI raz), .ref ra1, .int (nI ras)])), (ra1, .inl (T 1, 40, .inr (.inl raf))), (rb0, .inr (1, [.int rbh, .int (nI rbz), .ref rb1, .int (nI rbs)])), (rb1, .inl (T 1, 40, .inr (.inl rbf))), (rc0, .inr (1, [.int rch, .int (nI rcz), .ref rc1, .int (nI rcs)])), (rc1, .inl (T 1, 40, .inr (.inl rcf))), (rd0, .inr (1, [.int rdh, .int (nI rdz), .ref rd1, .int (nI rds)])), (rd1, .inl (T 1, 40, .inr (.inl rdf))), (h0, .inr (3, [.ref h1, .int qx, .int qy, .int (nI j_7), .ref h2, .ref h3])), (h1, .inl (T 0, 10, .inl qb)), (h2, .inl (T 0, 10, .inl g_26)), (h3, .inl (T 0, 12, .inl qc)), (n0, .inr (5, [.int (nI nn), .int nm, .int nl, .int no, .int nu, .ref n1, .ref n2, .ref n3, .ref n4, .ref n5, .ref n6, .ref n7, .ref n8, .ref n9, .ref n10])), (n1, .inl (T 0, 10, .inl nf1)), (n2, .inl (T 0, 10, .inl nf2)), (n3, .inl (T 0, 10, .inl nf3)), (n4, .inl (T 0, 10, .inl nf4)), (n5, .inl (T 0, 10, .inl nf5)), (n9, .inl (T 0, 10, .inl nf9))] H locs := V _ [6, 0, 2, 1] rfl rfl rfl (by decide +kernel) rfl
          show W p l e _ s m args below meth c H locs _ _ _ (F0 m 49 ls [])
          refine lv_aload_n hx hb dX7_holds_49 rfl (lv_at hl 1 rfl) ?_
          refine g_get hC V (ci := 7) uwX7 0 rfl rfl 7 (by decide) w_256 rfl rfl dX7_holds_50 ?_
          refine lv_aload_n hx hb dX7_holds_53 rfl (lv_at hl 1 rfl) ?_
          refine g_get hC V (ci := 7) uwX7 0 rfl rfl 0 (by decide) w_249 rfl rfl dX7_holds_54 ?_
          refine g_callVU (nA := 1) hC V hl.1 (h_judgeOn l D T h0 n0 h1 qx qy j_7 h2 h3 g_26 qc nn nm nl no nu n1 n2 n3 n4 n5 n6 n7 n8 n9 n10 nf1 nf2 nf3 nf4 nf5 nf9 (by first | assumption | omega) ⟨by omega, by omega⟩) w_610 w_611 w_612 w_6 w_613 (by decide +kernel) rfl ⟨(Nat.le_of_ble_eq_true rfl), (Nat.le_of_ble_eq_true rfl)⟩ 10 (ci := 3) rfl rfl [10, 12, 13, 14, 15, 16, 17, 18, 19, 20] rfl rfl (Nat.le_of_ble_eq_true rfl) dX7_holds_57 ⟨(Nat.le_of_ble_eq_true rfl), (Nat.le_of_ble_eq_true rfl)⟩ rfl (fun r w1 H locs hQ V => ?_)
          obtain ⟨x1_27, x2_28, g_29, rfl, rfl⟩ := hQ
          have V : gW D T A s [(o, .inr (7, [.ref n0, .ref s0, .ref im, .ref iz, .ref rw, .ref t0, .ref u0, .ref h0, .ref y0, sv])), (rw, .inl (T 5, 4, .inr (.inr (.inr (.inr (va_up (va_up (va_up (va_up (fun _ => none) 0 (some ra0)) 1 (some rb0)) 2 (some rc0)) 3 (some rd0))))))), (ra0, .inr (1, [.int rah, .int (nI raz), .ref ra1, .int (nI ras)])), (ra1, .inl (T 1, 40, .inr (.inl raf))), (rb0, .inr (1, [.int rbh, .int (nI rbz), .ref rb1, .int (nI rbs)])), (rb1, .inl (T 1, 40, .inr (.inl rbf))), (rc0, .inr (1, [.int rch, .int (nI rcz), .ref rc1, .int (nI rcs)])), (rc1, .inl (T 1, 40, .inr (.inl rcf))), (rd0, .inr (1, [.int rdh, .int (nI rdz), .ref rd1, .int (nI rds)])), (rd1, .inl (T 1, 40, .inr (.inl rdf))), (h0, .inr (3, [.ref h1, .int x1_27, .int x2_28, .int (nI j_7), .ref h2, .ref h3])), (h1, .inl (T 0, 10, .inl qb)), (h2, .inl (T 0, 10, .inl g_26)), (h3, .inl (T 0, 12, .inl g_29)), (n0, .inr (5, [.int (nI nn), .int nm, .int nl, .int no, .int nu, .ref n1, .ref n2, .ref n3, .ref n4, .ref n5, .ref n6, .ref n7, .ref n8, .ref n9, .ref n10])), (n1, .inl (T 0, 10, .inl nf1)), (n2, .inl (T 0, 10, .inl nf2)), (n3, .inl (T 0, 10, .inl nf3)), (n4, .inl (T 0, 10, .inl nf4)), (n5, .inl (T 0, 10, .inl nf5)), (n9, .inl (T 0, 10, .inl nf9))] H locs := V _ [10, 1, 0, 0, 0, 0, 0, 0, 0, 0] rfl rfl rfl (by decide +kernel) rfl
          show W p l e _ s m args below meth c H locs _ _ _ (F0 m 60 ls [])
          refine lv_iload_n hx hb dX7_holds_60 rfl (lv_at hl 4 rfl) ?_
          refine lv_if_ne (tgt := 74) hx hb dX7_holds_61 (by decide) (fun c_30 => ?_) (fun c_30 => ?_)
          · skip
            refine lv_aload_n hx hb dX7_holds_74 rfl (lv_at hl 1 rfl) ?_
            refine g_get hC V (ci := 7) uwX7 0 rfl rfl 7 (by decide) w_256 rfl rfl dX7_holds_75 ?_
            refine g_get hC V (ci := 3) uwX3 10 rfl rfl 2 (by decide) w_188 rfl rfl dX7_holds_78 ?_
            exact g_iret (Qr := (q_x_holds T o row le wh n0 s0 im iz rw t0 u0 h0 y0 sv ra0 rb0 rc0 rd0 rah raz ra1 ras raf rbh rbz rb1 rbs rbf rch rcz rc1 rcs rcf rdh rdz rd1 rds rdf h1 qx qy ql h2 h3 qb qp qc nn nm nl no nu n1 n2 n3 n4 n5 n6 n7 n8 n9 n10 nf1 nf2 nf3 nf4 nf5 nf9)) hC V ⟨(Nat.le_of_ble_eq_true rfl), (Nat.le_of_ble_eq_true rfl)⟩ ⟨x2_28, x1_27, x2_28, (nI j_7), qb, g_26, g_29, rfl, rfl⟩ dX7_holds_81
          · skip
            refine lv_aload_n hx hb dX7_holds_64 rfl (lv_at hl 1 rfl) ?_
            refine g_get hC V (ci := 7) uwX7 0 rfl rfl 7 (by decide) w_256 rfl rfl dX7_holds_65 ?_
            refine g_get hC V (ci := 3) uwX3 10 rfl rfl 1 (by decide) w_186 rfl rfl dX7_holds_68 ?_
            refine lv_goto (tgt := 81) hx hb dX7_holds_71 (by decide) ?_
            exact g_iret (Qr := (q_x_holds T o row le wh n0 s0 im iz rw t0 u0 h0 y0 sv ra0 rb0 rc0 rd0 rah raz ra1 ras raf rbh rbz rb1 rbs rbf rch rcz rc1 rcs rcf rdh rdz rd1 rds rdf h1 qx qy ql h2 h3 qb qp qc nn nm nl no nu n1 n2 n3 n4 n5 n6 n7 n8 n9 n10 nf1 nf2 nf3 nf4 nf5 nf9)) hC V ⟨(Nat.le_of_ble_eq_true rfl), (Nat.le_of_ble_eq_true rfl)⟩ ⟨x1_27, x1_27, x2_28, (nI j_7), qb, g_26, g_29, rfl, rfl⟩ dX7_holds_81
        · skip
          refine lv_istore (lv' := [(4, .int (nI 0)), (0, .ref o), (1, .int (nI 3)), (2, .int (nI j_7)), (3, .int wh)]) hx hb dX7_holds_25 hl (by decide) rfl (fun ls hl => ?_)
          refine lv_iload hx hb dX7_holds_27 (lv_at hl 0 rfl) ?_
          refine lv_if_eq (tgt := 35) hx hb dX7_holds_29 (by decide) (fun _ => ?_) (fun c => absurd (show (nI 0) = 0 by decide +kernel) c)
          refine lv_aload_n hx hb dX7_holds_35 rfl (lv_at hl 1 rfl) ?_
          refine g_get hC V (ci := 7) uwX7 0 rfl rfl 7 (by decide) w_256 rfl rfl dX7_holds_36 ?_
          refine lv_aload_n hx hb dX7_holds_39 rfl (lv_at hl 1 rfl) ?_
          refine g_get hC V (ci := 7) uwX7 0 rfl rfl 4 (by decide) w_253 rfl rfl dX7_holds_40 ?_
          refine lv_iload_n hx hb dX7_holds_43 rfl (lv_at hl 2 rfl) ?_
          refine g_aald hC V 1 5 rfl rfl (vp_in_nI (by decide) (by decide)) (v := .ref rd0) (by rw [nI_clamp (by decide)]; rfl) dX7_holds_44 ?_
          refine lv_iload_n hx hb dX7_holds_45 rfl (lv_at hl 3 rfl) ?_
          refine g_callVU (nA := 2) hC V hl.1 (h_takeRow l D T h0 rd0 j_7 h1 qx qy ql h2 h3 qp rdh rdz rd1 rds rdf) w_602 w_603 w_604 w_6 w_605 (by decide +kernel) rfl ⟨(Nat.le_of_ble_eq_true rfl), (Nat.le_of_ble_eq_true rfl)⟩ 10 (ci := 3) rfl rfl [10, 12, 8, 9] rfl rfl (Nat.le_of_ble_eq_true rfl) dX7_holds_46 ⟨(Nat.le_of_ble_eq_true rfl), (Nat.le_of_ble_eq_true rfl)⟩ rfl (fun r w1 H locs hQ V => ?_)
          obtain ⟨g_31, rfl, rfl⟩ := hQ
          have V : gW D T A s [(o, .inr (7, [.ref n0, .ref s0, .ref im, .ref iz, .ref rw, .ref t0, .ref u0, .ref h0, .ref y0, sv])), (rw, .inl (T 5, 4, .inr (.inr (.inr (.inr (va_up (va_up (va_up (va_up (fun _ => none) 0 (some ra0)) 1 (some rb0)) 2 (some rc0)) 3 (some rd0))))))), (ra0, .inr (1, [.int rah, .int (nI raz), .ref ra1, .int (nI ras)])), (ra1, .inl (T 1, 40, .inr (.inl raf))), (rb0, .inr (1, [.int rbh, .int (nI rbz), .ref rb1, .int (nI rbs)])), (rb1, .inl (T 1, 40, .inr (.inl rbf))), (rc0, .inr (1, [.int rch, .int (nI rcz), .ref rc1, .int (nI rcs)])), (rc1, .inl (T 1, 40, .inr (.inl rcf))), (rd0, .inr (1, [.int rdh, .int (nI rdz), .ref rd1, .int (nI rds)])), (rd1, .inl (T 1, 40, .inr (.inl rdf))), (h0, .inr (3, [.ref h1, .int qx, .int qy, .int (nI j_7), .ref h2, .ref h3])), (h1, .inl (T 0, 10, .inl qb)), (h2, .inl (T 0, 10, .inl g_31)), (h3, .inl (T 0, 12, .inl qc)), (n0, .inr (5, [.int (nI nn), .int nm, .int nl, .int no, .int nu, .ref n1, .ref n2, .ref n3, .ref n4, .ref n5, .ref n6, .ref n7, .ref n8, .ref n9, .ref n10])), (n1, .inl (T 0, 10, .inl nf1)), (n2, .inl (T 0, 10, .inl nf2)), (n3, .inl (T 0, 10, .inl nf3)), (n4, .inl (T 0, 10, .inl nf4)), (n5, .inl (T 0, 10, .inl nf5)), (n9, .inl (T 0, 10, .inl nf9))] H locs := V _ [8, 0, 0, 1] rfl rfl rfl (by decide +kernel) rfl
          show W p l e _ s m args below meth c H locs _ _ _ (F0 m 49 ls [])
          refine lv_aload_n hx hb dX7_holds_49 rfl (lv_at hl 1 rfl) ?_
          refine g_get hC V (ci := 7) uwX7 0 rfl rfl 7 (by decide) w_256 rfl rfl dX7_holds_50 ?_
          refine lv_aload_n hx hb dX7_holds_53 rfl (lv_at hl 1 rfl) ?_
          refine g_get hC V (ci := 7) uwX7 0 rfl rfl 0 (by decide) w_249 rfl rfl dX7_holds_54 ?_
          refine g_callVU (nA := 1) hC V hl.1 (h_judgeOn l D T h0 n0 h1 qx qy j_7 h2 h3 g_31 qc nn nm nl no nu n1 n2 n3 n4 n5 n6 n7 n8 n9 n10 nf1 nf2 nf3 nf4 nf5 nf9 (by first | assumption | omega) ⟨by omega, by omega⟩) w_610 w_611 w_612 w_6 w_613 (by decide +kernel) rfl ⟨(Nat.le_of_ble_eq_true rfl), (Nat.le_of_ble_eq_true rfl)⟩ 10 (ci := 3) rfl rfl [10, 12, 13, 14, 15, 16, 17, 18, 19, 20] rfl rfl (Nat.le_of_ble_eq_true rfl) dX7_holds_57 ⟨(Nat.le_of_ble_eq_true rfl), (Nat.le_of_ble_eq_true rfl)⟩ rfl (fun r w1 H locs hQ V => ?_)
          obtain ⟨x1_32, x2_33, g_34, rfl, rfl⟩ := hQ
          have V : gW D T A s [(o, .inr (7, [.ref n0, .ref s0, .ref im, .ref iz, .ref rw, .ref t0, .ref u0, .ref h0, .ref y0, sv])), (rw, .inl (T 5, 4, .inr (.inr (.inr (.inr (va_up (va_up (va_up (va_up (fun _ => none) 0 (some ra0)) 1 (some rb0)) 2 (some rc0)) 3 (some rd0))))))), (ra0, .inr (1, [.int rah, .int (nI raz), .ref ra1, .int (nI ras)])), (ra1, .inl (T 1, 40, .inr (.inl raf))), (rb0, .inr (1, [.int rbh, .int (nI rbz), .ref rb1, .int (nI rbs)])), (rb1, .inl (T 1, 40, .inr (.inl rbf))), (rc0, .inr (1, [.int rch, .int (nI rcz), .ref rc1, .int (nI rcs)])), (rc1, .inl (T 1, 40, .inr (.inl rcf))), (rd0, .inr (1, [.int rdh, .int (nI rdz), .ref rd1, .int (nI rds)])), (rd1, .inl (T 1, 40, .inr (.inl rdf))), (h0, .inr (3, [.ref h1, .int x1_32, .int x2_33, .int (nI j_7), .ref h2, .ref h3])), (h1, .inl (T 0, 10, .inl qb)), (h2, .inl (T 0, 10, .inl g_31)), (h3, .inl (T 0, 12, .inl g_34)), (n0, .inr (5, [.int (nI nn), .int nm, .int nl, .int no, .int nu, .ref n1, .ref n2, .ref n3, .ref n4, .ref n5, .ref n6, .ref n7, .ref n8, .ref n9, .ref n10])), (n1, .inl (T 0, 10, .inl nf1)), (n2, .inl (T 0, 10, .inl nf2)), (n3, .inl (T 0, 10, .inl nf3)), (n4, .inl (T 0, 10, .inl nf4)), (n5, .inl (T 0, 10, .inl nf5)), (n9, .inl (T 0, 10, .inl nf9))] H locs := V _ [10, 1, 0, 0, 0, 0, 0, 0, 0, 0] rfl rfl rfl (by decide +kernel) rfl
          show W p l e _ s m args below meth c H locs _ _ _ (F0 m 60 ls [])
          refine lv_iload_n hx hb dX7_holds_60 rfl (lv_at hl 4 rfl) ?_
          refine lv_if_ne (tgt := 74) hx hb dX7_holds_61 (by decide) (fun c_35 => ?_) (fun c_35 => ?_)
          · skip
            refine lv_aload_n hx hb dX7_holds_74 rfl (lv_at hl 1 rfl) ?_
            refine g_get hC V (ci := 7) uwX7 0 rfl rfl 7 (by decide) w_256 rfl rfl dX7_holds_75 ?_
            refine g_get hC V (ci := 3) uwX3 10 rfl rfl 2 (by decide) w_188 rfl rfl dX7_holds_78 ?_
            exact g_iret (Qr := (q_x_holds T o row le wh n0 s0 im iz rw t0 u0 h0 y0 sv ra0 rb0 rc0 rd0 rah raz ra1 ras raf rbh rbz rb1 rbs rbf rch rcz rc1 rcs rcf rdh rdz rd1 rds rdf h1 qx qy ql h2 h3 qb qp qc nn nm nl no nu n1 n2 n3 n4 n5 n6 n7 n8 n9 n10 nf1 nf2 nf3 nf4 nf5 nf9)) hC V ⟨(Nat.le_of_ble_eq_true rfl), (Nat.le_of_ble_eq_true rfl)⟩ ⟨x2_33, x1_32, x2_33, (nI j_7), qb, g_31, g_34, rfl, rfl⟩ dX7_holds_81
          · skip
            refine lv_aload_n hx hb dX7_holds_64 rfl (lv_at hl 1 rfl) ?_
            refine g_get hC V (ci := 7) uwX7 0 rfl rfl 7 (by decide) w_256 rfl rfl dX7_holds_65 ?_
            refine g_get hC V (ci := 3) uwX3 10 rfl rfl 1 (by decide) w_186 rfl rfl dX7_holds_68 ?_
            refine lv_goto (tgt := 81) hx hb dX7_holds_71 (by decide) ?_
            exact g_iret (Qr := (q_x_holds T o row le wh n0 s0 im iz rw t0 u0 h0 y0 sv ra0 rb0 rc0 rd0 rah raz ra1 ras raf rbh rbz rb1 rbs rbf rch rcz rc1 rcs rcf rdh rdz rd1 rds rdf h1 qx qy ql h2 h3 qb qp qc nn nm nl no nu n1 n2 n3 n4 n5 n6 n7 n8 n9 n10 nf1 nf2 nf3 nf4 nf5 nf9)) hC V ⟨(Nat.le_of_ble_eq_true rfl), (Nat.le_of_ble_eq_true rfl)⟩ ⟨x1_32, x1_32, x2_33, (nI j_7), qb, g_31, g_34, rfl, rfl⟩ dX7_holds_81
      · have V : gW D T A s [(o, .inr (7, [.ref n0, .ref s0, .ref im, .ref iz, .ref rw, .ref t0, .ref u0, .ref h0, .ref y0, sv])), (rw, .inl (T 5, 4, .inr (.inr (.inr (.inr (va_up (va_up (va_up (va_up (fun _ => none) 0 (some ra0)) 1 (some rb0)) 2 (some rc0)) 3 (some rd0))))))), (ra0, .inr (1, [.int rah, .int (nI raz), .ref ra1, .int (nI ras)])), (ra1, .inl (T 1, 40, .inr (.inl raf))), (rb0, .inr (1, [.int rbh, .int (nI rbz), .ref rb1, .int (nI rbs)])), (rb1, .inl (T 1, 40, .inr (.inl rbf))), (rc0, .inr (1, [.int rch, .int (nI rcz), .ref rc1, .int (nI rcs)])), (rc1, .inl (T 1, 40, .inr (.inl rcf))), (rd0, .inr (1, [.int rdh, .int (nI rdz), .ref rd1, .int (nI rds)])), (rd1, .inl (T 1, 40, .inr (.inl rdf))), (h0, .inr (3, [.ref h1, .int qx, .int qy, .int ql, .ref h2, .ref h3])), (h1, .inl (T 0, 10, .inl qb)), (h2, .inl (T 0, 10, .inl qp)), (h3, .inl (T 0, 12, .inl qc)), (n0, .inr (5, [.int (nI nn), .int nm, .int nl, .int no, .int nu, .ref n1, .ref n2, .ref n3, .ref n4, .ref n5, .ref n6, .ref n7, .ref n8, .ref n9, .ref n10])), (n1, .inl (T 0, 10, .inl nf1)), (n2, .inl (T 0, 10, .inl nf2)), (n3, .inl (T 0, 10, .inl nf3)), (n4, .inl (T 0, 10, .inl nf4)), (n5, .inl (T 0, 10, .inl nf5)), (n9, .inl (T 0, 10, .inl nf9))] H locs := V _ [0, 0, 0, 0, 0, 0, 0, 0, 0, 0, 4] rfl rfl rfl (by decide +kernel) rfl
        show W p l e _ s m args below meth c H locs _ _ _ (F0 m 25 ls [.int z_13])
        refine lv_istore (lv' := [(4, .int z_13), (0, .ref o), (1, .int row), (2, .int le), (3, .int wh)]) hx hb dX7_holds_25 hl (by decide) rfl (fun ls hl => ?_)
        refine lv_iload hx hb dX7_holds_27 (lv_at hl 0 rfl) ?_
        refine lv_if_eq (tgt := 35) hx hb dX7_holds_29 (by decide) (fun c_36 => ?_) (fun c_36 => ?_)
        · skip
          exact (absurd c_36 (by assumption) : False).elim
        · skip
          refine lv_iload hx hb dX7_holds_32 (lv_at hl 0 rfl) ?_
          exact g_iret (Qr := (q_x_holds T o row le wh n0 s0 im iz rw t0 u0 h0 y0 sv ra0 rb0 rc0 rd0 rah raz ra1 ras raf rbh rbz rb1 rbs rbf rch rcz rc1 rcs rcf rdh rdz rd1 rds rdf h1 qx qy ql h2 h3 qb qp qc nn nm nl no nu n1 n2 n3 n4 n5 n6 n7 n8 n9 n10 nf1 nf2 nf3 nf4 nf5 nf9)) hC V ⟨(Nat.le_of_ble_eq_true rfl), (Nat.le_of_ble_eq_true rfl)⟩ ⟨z_13, qx, qy, ql, qb, qp, qc, rfl, rfl⟩ dX7_holds_34
    · have V : gW D T A s [(o, .inr (7, [.ref n0, .ref s0, .ref im, .ref iz, .ref rw, .ref t0, .ref u0, .ref h0, .ref y0, sv])), (rw, .inl (T 5, 4, .inr (.inr (.inr (.inr (va_up (va_up (va_up (va_up (fun _ => none) 0 (some ra0)) 1 (some rb0)) 2 (some rc0)) 3 (some rd0))))))), (ra0, .inr (1, [.int rah, .int (nI raz), .ref ra1, .int (nI ras)])), (ra1, .inl (T 1, 40, .inr (.inl raf))), (rb0, .inr (1, [.int rbh, .int (nI rbz), .ref rb1, .int (nI rbs)])), (rb1, .inl (T 1, 40, .inr (.inl rbf))), (rc0, .inr (1, [.int rch, .int (nI rcz), .ref rc1, .int (nI rcs)])), (rc1, .inl (T 1, 40, .inr (.inl rcf))), (rd0, .inr (1, [.int rdh, .int (nI rdz), .ref rd1, .int (nI rds)])), (rd1, .inl (T 1, 40, .inr (.inl rdf))), (h0, .inr (3, [.ref h1, .int qx, .int qy, .int ql, .ref h2, .ref h3])), (h1, .inl (T 0, 10, .inl qb)), (h2, .inl (T 0, 10, .inl qp)), (h3, .inl (T 0, 12, .inl qc)), (n0, .inr (5, [.int (nI nn), .int nm, .int nl, .int no, .int nu, .ref n1, .ref n2, .ref n3, .ref n4, .ref n5, .ref n6, .ref n7, .ref n8, .ref n9, .ref n10])), (n1, .inl (T 0, 10, .inl nf1)), (n2, .inl (T 0, 10, .inl nf2)), (n3, .inl (T 0, 10, .inl nf3)), (n4, .inl (T 0, 10, .inl nf4)), (n5, .inl (T 0, 10, .inl nf5)), (n9, .inl (T 0, 10, .inl nf9))] H locs := V _ [] rfl rfl rfl (by decide +kernel) rfl
      show W p l e _ s m args below meth c H locs _ _ _ (F0 m 13 ls [.int (nI 0)])
      refine lv_if_ne (tgt := 19) hx hb dX7_holds_13 (by decide) (fun c => absurd (show (nI 0) = 0 by decide +kernel) c) (fun _ => ?_)
      refine lv_bipush (v := (-2)) hx hb dX7_holds_16 (by decide +kernel) ?_
      exact g_iret (Qr := (q_x_holds T o row le wh n0 s0 im iz rw t0 u0 h0 y0 sv ra0 rb0 rc0 rd0 rah raz ra1 ras raf rbh rbz rb1 rbs rbf rch rcz rc1 rcs rcf rdh rdz rd1 rds rdf h1 qx qy ql h2 h3 qb qp qc nn nm nl no nu n1 n2 n3 n4 n5 n6 n7 n8 n9 n10 nf1 nf2 nf3 nf4 nf5 nf9)) hC V ⟨(Nat.le_of_ble_eq_true rfl), (Nat.le_of_ble_eq_true rfl)⟩ ⟨(-2), qx, qy, ql, qb, qp, qc, rfl, rfl⟩ dX7_holds_18
  · have V : gW D T A s [(o, .inr (7, [.ref n0, .ref s0, .ref im, .ref iz, .ref rw, .ref t0, .ref u0, .ref h0, .ref y0, sv])), (rw, .inl (T 5, 4, .inr (.inr (.inr (.inr (va_up (va_up (va_up (va_up (fun _ => none) 0 (some ra0)) 1 (some rb0)) 2 (some rc0)) 3 (some rd0))))))), (ra0, .inr (1, [.int rah, .int (nI raz), .ref ra1, .int (nI ras)])), (ra1, .inl (T 1, 40, .inr (.inl raf))), (rb0, .inr (1, [.int rbh, .int (nI rbz), .ref rb1, .int (nI rbs)])), (rb1, .inl (T 1, 40, .inr (.inl rbf))), (rc0, .inr (1, [.int rch, .int (nI rcz), .ref rc1, .int (nI rcs)])), (rc1, .inl (T 1, 40, .inr (.inl rcf))), (rd0, .inr (1, [.int rdh, .int (nI rdz), .ref rd1, .int (nI rds)])), (rd1, .inl (T 1, 40, .inr (.inl rdf))), (h0, .inr (3, [.ref h1, .int qx, .int qy, .int ql, .ref h2, .ref h3])), (h1, .inl (T 0, 10, .inl qb)), (h2, .inl (T 0, 10, .inl qp)), (h3, .inl (T 0, 12, .inl qc)), (n0, .inr (5, [.int (nI nn), .int nm, .int nl, .int no, .int nu, .ref n1, .ref n2, .ref n3, .ref n4, .ref n5, .ref n6, .ref n7, .ref n8, .ref n9, .ref n10])), (n1, .inl (T 0, 10, .inl nf1)), (n2, .inl (T 0, 10, .inl nf2)), (n3, .inl (T 0, 10, .inl nf3)), (n4, .inl (T 0, 10, .inl nf4)), (n5, .inl (T 0, 10, .inl nf5)), (n9, .inl (T 0, 10, .inl nf9))] H locs := V _ [] rfl rfl rfl (by decide +kernel) rfl
    show W p l e _ s m args below meth c H locs _ _ _ (F0 m 4 ls [.int (nI 0)])
    refine lv_if_eq (tgt := 16) hx hb dX7_holds_4 (by decide) (fun _ => ?_) (fun c => absurd (show (nI 0) = 0 by decide +kernel) c)
    refine lv_bipush (v := (-2)) hx hb dX7_holds_16 (by decide +kernel) ?_
    exact g_iret (Qr := (q_x_holds T o row le wh n0 s0 im iz rw t0 u0 h0 y0 sv ra0 rb0 rc0 rd0 rah raz ra1 ras raf rbh rbz rb1 rbs rbf rch rcz rc1 rcs rcf rdh rdz rd1 rds rdf h1 qx qy ql h2 h3 qb qp qc nn nm nl no nu n1 n2 n3 n4 n5 n6 n7 n8 n9 n10 nf1 nf2 nf3 nf4 nf5 nf9)) hC V ⟨(Nat.le_of_ble_eq_true rfl), (Nat.le_of_ble_eq_true rfl)⟩ ⟨(-2), qx, qy, ql, qb, qp, qc, rfl, rfl⟩ dX7_holds_18

def q_x_waveBreaks (T : Nat → ClassId) (o : Nat) (le : Nat) (step : Int32) (n0 : Nat) (s0 : Nat) (im : Nat) (iz : Nat) (rw : Nat) (t0 : Nat) (u0 : Nat) (h0 : Nat) (y0 : Nat) (sv : Value) (h1 : Nat) (qx : Int32) (qy : Int32) (ql : Int32) (h2 : Nat) (h3 : Nat) (qb : Nat → Int32) (qp : Nat → Int32) (qc : Nat → Int32) (nn : Nat) (nm : Int32) (nl : Int32) (no : Int32) (nu : Int32) (n1 : Nat) (n2 : Nat) (n3 : Nat) (n4 : Nat) (n5 : Nat) (n6 : Nat) (n7 : Nat) (n8 : Nat) (n9 : Nat) (n10 : Nat) (nf1 : Nat → Int32) (nf2 : Nat → Int32) (nf3 : Nat → Int32) (nf4 : Nat → Int32) (nf5 : Nat → Int32) (nf9 : Nat → Int32) : Option Value → va_W → Prop := fun rr ww => (∃ (z : Int32) (x1 : Int32) (x2 : Int32) (x3 : Int32) (k1 : Nat → Int32) (k2 : Nat → Int32) (k3 : Nat → Int32), rr = some (.int z) ∧ ww = [(o, .inr (7, [.ref n0, .ref s0, .ref im, .ref iz, .ref rw, .ref t0, .ref u0, .ref h0, .ref y0, sv])), (h0, .inr (3, [.ref h1, .int x1, .int x2, .int x3, .ref h2, .ref h3])), (h1, .inl (T 0, 10, .inl k1)), (h2, .inl (T 0, 10, .inl k2)), (h3, .inl (T 0, 12, .inl k3)), (n0, .inr (5, [.int (nI nn), .int nm, .int nl, .int no, .int nu, .ref n1, .ref n2, .ref n3, .ref n4, .ref n5, .ref n6, .ref n7, .ref n8, .ref n9, .ref n10])), (n1, .inl (T 0, 10, .inl nf1)), (n2, .inl (T 0, 10, .inl nf2)), (n3, .inl (T 0, 10, .inl nf3)), (n4, .inl (T 0, 10, .inl nf4)), (n5, .inl (T 0, 10, .inl nf5)), (n9, .inl (T 0, 10, .inl nf9))])
set_option maxHeartbeats 4000000 in
set_option maxRecDepth 100000 in
theorem x_waveBreaks (l : Launch) (D : va_G) (T : Nat → ClassId) (o : Nat) (le : Nat) (step : Int32) (n0 : Nat) (s0 : Nat) (im : Nat) (iz : Nat) (rw : Nat) (t0 : Nat) (u0 : Nat) (h0 : Nat) (y0 : Nat) (sv : Value) (h1 : Nat) (qx : Int32) (qy : Int32) (ql : Int32) (h2 : Nat) (h3 : Nat) (qb : Nat → Int32) (qp : Nat → Int32) (qc : Nat → Int32) (nn : Nat) (nm : Int32) (nl : Int32) (no : Int32) (nu : Int32) (n1 : Nat) (n2 : Nat) (n3 : Nat) (n4 : Nat) (n5 : Nat) (n6 : Nat) (n7 : Nat) (n8 : Nat) (n9 : Nat) (n10 : Nat) (nf1 : Nat → Int32) (nf2 : Nat → Int32) (nf3 : Nat → Int32) (nf4 : Nat → Int32) (nf5 : Nat → Int32) (nf9 : Nat → Int32) (h_n : nn ≤ 10) (h_l : 1 ≤ le ∧ le ≤ 12) : Ct l yX7_waveBreaksBehind cX7_waveBreaksBehind 3 (some .int) 4 0 0 D T [.ref o, .int (nI le), .int step] [(o, .inr (7, [.ref n0, .ref s0, .ref im, .ref iz, .ref rw, .ref t0, .ref u0, .ref h0, .ref y0, sv])), (h0, .inr (3, [.ref h1, .int qx, .int qy, .int ql, .ref h2, .ref h3])), (h1, .inl (T 0, 10, .inl qb)), (h2, .inl (T 0, 10, .inl qp)), (h3, .inl (T 0, 12, .inl qc)), (n0, .inr (5, [.int (nI nn), .int nm, .int nl, .int no, .int nu, .ref n1, .ref n2, .ref n3, .ref n4, .ref n5, .ref n6, .ref n7, .ref n8, .ref n9, .ref n10])), (n1, .inl (T 0, 10, .inl nf1)), (n2, .inl (T 0, 10, .inl nf2)), (n3, .inl (T 0, 10, .inl nf3)), (n4, .inl (T 0, 10, .inl nf4)), (n5, .inl (T 0, 10, .inl nf5)), (n9, .inl (T 0, 10, .inl nf9))] (q_x_waveBreaks T o le step n0 s0 im iz rw t0 u0 h0 y0 sv h1 qx qy ql h2 h3 qb qp qc nn nm nl no nu n1 n2 n3 n4 n5 n6 n7 n8 n9 n10 nf1 nf2 nf3 nf4 nf5 nf9) := by
  refine Ct.of (cc := cX7_waveBreaksBehind) (maxL := 3) (ret := (some .int)) (by decide) (Nat.le_of_ble_eq_true rfl) ?_
  intro p e s m args below meth c A ls hC hnm V hl
  obtain ⟨hx, hb, hr, hml, hown, hts, hlocks⟩ := id hC
  generalize hH : s.heap = H at V ⊢
  clear hH
  have hl : lv_has ls 3 [(0, .ref o), (1, .int (nI le)), (2, .int step)] := hl
  generalize hlo : ([] : List Loc) = locs at V ⊢
  clear hlo
  refine lv_aload_n hx hb dX7_waveBreaksBehind_0 rfl (lv_at hl 0 rfl) ?_
  refine g_get hC V (ci := 7) uwX7 0 rfl rfl 7 (by decide) w_256 rfl rfl dX7_waveBreaksBehind_1 ?_
  refine lv_iload_n hx hb dX7_waveBreaksBehind_4 rfl (lv_at hl 1 rfl) ?_
  refine lv_iload_n hx hb dX7_waveBreaksBehind_5 rfl (lv_at hl 2 rfl) ?_
  refine g_callVU (nA := 2) hC V hl.1 (h_takeWave l D T h0 le step h1 qx qy ql h2 h3 qp (by first | assumption | omega)) w_641 w_642 w_643 w_6 w_644 (by decide +kernel) rfl ⟨(Nat.le_of_ble_eq_true rfl), (Nat.le_of_ble_eq_true rfl)⟩ 1 (ci := 3) rfl rfl [1, 3] rfl rfl (Nat.le_of_ble_eq_true rfl) dX7_waveBreaksBehind_6 ⟨(Nat.le_of_ble_eq_true rfl), (Nat.le_of_ble_eq_true rfl)⟩ rfl (fun r w1 H locs hQ V => ?_)
  obtain ⟨g_1, rfl, rfl⟩ := hQ
  have V : gW D T A s [(o, .inr (7, [.ref n0, .ref s0, .ref im, .ref iz, .ref rw, .ref t0, .ref u0, .ref h0, .ref y0, sv])), (h0, .inr (3, [.ref h1, .int qx, .int qy, .int (nI le), .ref h2, .ref h3])), (h1, .inl (T 0, 10, .inl qb)), (h2, .inl (T 0, 10, .inl g_1)), (h3, .inl (T 0, 12, .inl qc)), (n0, .inr (5, [.int (nI nn), .int nm, .int nl, .int no, .int nu, .ref n1, .ref n2, .ref n3, .ref n4, .ref n5, .ref n6, .ref n7, .ref n8, .ref n9, .ref n10])), (n1, .inl (T 0, 10, .inl nf1)), (n2, .inl (T 0, 10, .inl nf2)), (n3, .inl (T 0, 10, .inl nf3)), (n4, .inl (T 0, 10, .inl nf4)), (n5, .inl (T 0, 10, .inl nf5)), (n9, .inl (T 0, 10, .inl nf9))] H locs := V _ [1, 1] rfl rfl rfl (by decide +kernel) rfl
  show W p l e _ s m args below meth c H locs _ _ _ (F0 m 9 ls [])
  refine lv_aload_n hx hb dX7_waveBreaksBehind_9 rfl (lv_at hl 0 rfl) ?_
  refine g_get hC V (ci := 7) uwX7 0 rfl rfl 7 (by decide) w_256 rfl rfl dX7_waveBreaksBehind_10 ?_
  refine lv_aload_n hx hb dX7_waveBreaksBehind_13 rfl (lv_at hl 0 rfl) ?_
  refine g_get hC V (ci := 7) uwX7 0 rfl rfl 0 (by decide) w_249 rfl rfl dX7_waveBreaksBehind_14 ?_
  refine g_callVU (nA := 1) hC V hl.1 (h_judgeOn l D T h0 n0 h1 qx qy le h2 h3 g_1 qc nn nm nl no nu n1 n2 n3 n4 n5 n6 n7 n8 n9 n10 nf1 nf2 nf3 nf4 nf5 nf9 (by first | assumption | omega) ⟨by omega, by omega⟩) w_610 w_611 w_612 w_6 w_613 (by decide +kernel) rfl ⟨(Nat.le_of_ble_eq_true rfl), (Nat.le_of_ble_eq_true rfl)⟩ 1 (ci := 3) rfl rfl [1, 3, 4, 5, 6, 7, 8, 9, 10, 11] rfl rfl (Nat.le_of_ble_eq_true rfl) dX7_waveBreaksBehind_17 ⟨(Nat.le_of_ble_eq_true rfl), (Nat.le_of_ble_eq_true rfl)⟩ rfl (fun r w1 H locs hQ V => ?_)
  obtain ⟨x1_2, x2_3, g_4, rfl, rfl⟩ := hQ
  have V : gW D T A s [(o, .inr (7, [.ref n0, .ref s0, .ref im, .ref iz, .ref rw, .ref t0, .ref u0, .ref h0, .ref y0, sv])), (h0, .inr (3, [.ref h1, .int x1_2, .int x2_3, .int (nI le), .ref h2, .ref h3])), (h1, .inl (T 0, 10, .inl qb)), (h2, .inl (T 0, 10, .inl g_1)), (h3, .inl (T 0, 12, .inl g_4)), (n0, .inr (5, [.int (nI nn), .int nm, .int nl, .int no, .int nu, .ref n1, .ref n2, .ref n3, .ref n4, .ref n5, .ref n6, .ref n7, .ref n8, .ref n9, .ref n10])), (n1, .inl (T 0, 10, .inl nf1)), (n2, .inl (T 0, 10, .inl nf2)), (n3, .inl (T 0, 10, .inl nf3)), (n4, .inl (T 0, 10, .inl nf4)), (n5, .inl (T 0, 10, .inl nf5)), (n9, .inl (T 0, 10, .inl nf9))] H locs := V _ [1, 1, 0, 0, 0, 0, 0, 0, 0, 0] rfl rfl rfl (by decide +kernel) rfl
  show W p l e _ s m args below meth c H locs _ _ _ (F0 m 20 ls [])
  refine lv_aload_n hx hb dX7_waveBreaksBehind_20 rfl (lv_at hl 0 rfl) ?_
  refine g_get hC V (ci := 7) uwX7 0 rfl rfl 7 (by decide) w_256 rfl rfl dX7_waveBreaksBehind_21 ?_
  refine g_get hC V (ci := 3) uwX3 1 rfl rfl 1 (by decide) w_186 rfl rfl dX7_waveBreaksBehind_24 ?_
  exact g_iret (Qr := (q_x_waveBreaks T o le step n0 s0 im iz rw t0 u0 h0 y0 sv h1 qx qy ql h2 h3 qb qp qc nn nm nl no nu n1 n2 n3 n4 n5 n6 n7 n8 n9 n10 nf1 nf2 nf3 nf4 nf5 nf9)) hC V ⟨(Nat.le_of_ble_eq_true rfl), (Nat.le_of_ble_eq_true rfl)⟩ ⟨x1_2, x1_2, x2_3, (nI le), qb, g_1, g_4, rfl, rfl⟩ dX7_waveBreaksBehind_27

def q_x_wave (T : Nat → ClassId) (o : Nat) (le : Int32) (step : Int32) (n0 : Nat) (s0 : Nat) (im : Nat) (iz : Nat) (rw : Nat) (t0 : Nat) (u0 : Nat) (h0 : Nat) (y0 : Nat) (sv : Value) (h1 : Nat) (qx : Int32) (qy : Int32) (ql : Int32) (h2 : Nat) (h3 : Nat) (qb : Nat → Int32) (qp : Nat → Int32) (qc : Nat → Int32) (nn : Nat) (nm : Int32) (nl : Int32) (no : Int32) (nu : Int32) (n1 : Nat) (n2 : Nat) (n3 : Nat) (n4 : Nat) (n5 : Nat) (n6 : Nat) (n7 : Nat) (n8 : Nat) (n9 : Nat) (n10 : Nat) (nf1 : Nat → Int32) (nf2 : Nat → Int32) (nf3 : Nat → Int32) (nf4 : Nat → Int32) (nf5 : Nat → Int32) (nf9 : Nat → Int32) : Option Value → va_W → Prop := fun rr ww => (∃ (z : Int32) (x1 : Int32) (x2 : Int32) (x3 : Int32) (k1 : Nat → Int32) (k2 : Nat → Int32) (k3 : Nat → Int32), rr = some (.int z) ∧ ww = [(o, .inr (7, [.ref n0, .ref s0, .ref im, .ref iz, .ref rw, .ref t0, .ref u0, .ref h0, .ref y0, sv])), (h0, .inr (3, [.ref h1, .int x1, .int x2, .int x3, .ref h2, .ref h3])), (h1, .inl (T 0, 10, .inl k1)), (h2, .inl (T 0, 10, .inl k2)), (h3, .inl (T 0, 12, .inl k3)), (n0, .inr (5, [.int (nI nn), .int nm, .int nl, .int no, .int nu, .ref n1, .ref n2, .ref n3, .ref n4, .ref n5, .ref n6, .ref n7, .ref n8, .ref n9, .ref n10])), (n1, .inl (T 0, 10, .inl nf1)), (n2, .inl (T 0, 10, .inl nf2)), (n3, .inl (T 0, 10, .inl nf3)), (n4, .inl (T 0, 10, .inl nf4)), (n5, .inl (T 0, 10, .inl nf5)), (n9, .inl (T 0, 10, .inl nf9))])
set_option maxHeartbeats 4000000 in
set_option maxRecDepth 100000 in
theorem x_wave (l : Launch) (D : va_G) (T : Nat → ClassId) (o : Nat) (le : Int32) (step : Int32) (n0 : Nat) (s0 : Nat) (im : Nat) (iz : Nat) (rw : Nat) (t0 : Nat) (u0 : Nat) (h0 : Nat) (y0 : Nat) (sv : Value) (h1 : Nat) (qx : Int32) (qy : Int32) (ql : Int32) (h2 : Nat) (h3 : Nat) (qb : Nat → Int32) (qp : Nat → Int32) (qc : Nat → Int32) (nn : Nat) (nm : Int32) (nl : Int32) (no : Int32) (nu : Int32) (n1 : Nat) (n2 : Nat) (n3 : Nat) (n4 : Nat) (n5 : Nat) (n6 : Nat) (n7 : Nat) (n8 : Nat) (n9 : Nat) (n10 : Nat) (nf1 : Nat → Int32) (nf2 : Nat → Int32) (nf3 : Nat → Int32) (nf4 : Nat → Int32) (nf5 : Nat → Int32) (nf9 : Nat → Int32) (h_n : nn ≤ 10) : Ct l yX7_wave cX7_wave 3 (some .int) 5 0 0 D T [.ref o, .int le, .int step] [(o, .inr (7, [.ref n0, .ref s0, .ref im, .ref iz, .ref rw, .ref t0, .ref u0, .ref h0, .ref y0, sv])), (h0, .inr (3, [.ref h1, .int qx, .int qy, .int ql, .ref h2, .ref h3])), (h1, .inl (T 0, 10, .inl qb)), (h2, .inl (T 0, 10, .inl qp)), (h3, .inl (T 0, 12, .inl qc)), (n0, .inr (5, [.int (nI nn), .int nm, .int nl, .int no, .int nu, .ref n1, .ref n2, .ref n3, .ref n4, .ref n5, .ref n6, .ref n7, .ref n8, .ref n9, .ref n10])), (n1, .inl (T 0, 10, .inl nf1)), (n2, .inl (T 0, 10, .inl nf2)), (n3, .inl (T 0, 10, .inl nf3)), (n4, .inl (T 0, 10, .inl nf4)), (n5, .inl (T 0, 10, .inl nf5)), (n9, .inl (T 0, 10, .inl nf9))] (q_x_wave T o le step n0 s0 im iz rw t0 u0 h0 y0 sv h1 qx qy ql h2 h3 qb qp qc nn nm nl no nu n1 n2 n3 n4 n5 n6 n7 n8 n9 n10 nf1 nf2 nf3 nf4 nf5 nf9) := by
  refine Ct.of (cc := cX7_wave) (maxL := 3) (ret := (some .int)) (by decide) (Nat.le_of_ble_eq_true rfl) ?_
  intro p e s m args below meth c A ls hC hnm V hl
  obtain ⟨hx, hb, hr, hml, hown, hts, hlocks⟩ := id hC
  generalize hH : s.heap = H at V ⊢
  clear hH
  have hl : lv_has ls 3 [(0, .ref o), (1, .int le), (2, .int step)] := hl
  generalize hlo : ([] : List Loc) = locs at V ⊢
  clear hlo
  refine lv_iload_n hx hb dX7_wave_0 rfl (lv_at hl 1 rfl) ?_
  refine lv_iconst (v := (nI 1)) hx hb dX7_wave_1 (by decide +kernel) ?_
  refine lv_bipush (v := (nI 12)) hx hb dX7_wave_2 (by decide +kernel) ?_
  refine g_callSU (nA := 3) hC V hl.1 (c_isWithin l D T le (nI 1) (nI 12)) w_292 w_293 w_2 w_294 (by decide +kernel) rfl ⟨(Nat.le_of_ble_eq_true rfl), (Nat.le_of_ble_eq_true rfl)⟩ [] rfl rfl (Nat.le_of_ble_eq_true rfl) dX7_wave_4 ⟨(Nat.le_of_ble_eq_true rfl), (Nat.le_of_ble_eq_true rfl)⟩ rfl (fun r w1 H locs hQ V => ?_)
  rcases hQ with ⟨rfl, rfl, f_1, f_2⟩ | ⟨rfl, rfl, f_3⟩
  · have V : gW D T A s [(o, .inr (7, [.ref n0, .ref s0, .ref im, .ref iz, .ref rw, .ref t0, .ref u0, .ref h0, .ref y0, sv])), (h0, .inr (3, [.ref h1, .int qx, .int qy, .int ql, .ref h2, .ref h3])), (h1, .inl (T 0, 10, .inl qb)), (h2, .inl (T 0, 10, .inl qp)), (h3, .inl (T 0, 12, .inl qc)), (n0, .inr (5, [.int (nI nn), .int nm, .int nl, .int no, .int nu, .ref n1, .ref n2, .ref n3, .ref n4, .ref n5, .ref n6, .ref n7, .ref n8, .ref n9, .ref n10])), (n1, .inl (T 0, 10, .inl nf1)), (n2, .inl (T 0, 10, .inl nf2)), (n3, .inl (T 0, 10, .inl nf3)), (n4, .inl (T 0, 10, .inl nf4)), (n5, .inl (T 0, 10, .inl nf5)), (n9, .inl (T 0, 10, .inl nf9))] H locs := V _ [] rfl rfl rfl (by decide +kernel) rfl
    show W p l e _ s m args below meth c H locs _ _ _ (F0 m 7 ls [.int (nI 1)])
    obtain ⟨i, hi1, hi2, ei⟩ := g_rng (by first | decide | omega) (by first | decide | omega) f_1 f_2
    rw [ei] at hl
    refine lv_if_eq (tgt := 21) hx hb dX7_wave_7 (by decide) (fun c => absurd (show (nI 1) = 0 from c) (by decide +kernel)) (fun _ => ?_)
    refine lv_iload_n hx hb dX7_wave_10 rfl (lv_at hl 2 rfl) ?_
    refine lv_iconst (v := (nI 0)) hx hb dX7_wave_11 (by decide +kernel) ?_
    refine lv_iload_n hx hb dX7_wave_12 rfl (lv_at hl 1 rfl) ?_
    refine lv_iconst (v := (nI 1)) hx hb dX7_wave_13 (by decide +kernel) ?_
    refine lv_isub hx hb dX7_wave_14 ?_
    refine g_callSU (nA := 3) hC V hl.1 (c_isWithin l D T step (nI 0) ((nI i) - (nI 1))) w_292 w_293 w_2 w_294 (by decide +kernel) rfl ⟨(Nat.le_of_ble_eq_true rfl), (Nat.le_of_ble_eq_true rfl)⟩ [] rfl rfl (Nat.le_of_ble_eq_true rfl) dX7_wave_15 ⟨(Nat.le_of_ble_eq_true rfl), (Nat.le_of_ble_eq_true rfl)⟩ rfl (fun r w1 H locs hQ V => ?_)
    rcases hQ with ⟨rfl, rfl, f_4, f_5⟩ | ⟨rfl, rfl, f_6⟩
    · have V : gW D T A s [(o, .inr (7, [.ref n0, .ref s0, .ref im, .ref iz, .ref rw, .ref t0, .ref u0, .ref h0, .ref y0, sv])), (h0, .inr (3, [.ref h1, .int qx, .int qy, .int ql, .ref h2, .ref h3])), (h1, .inl (T 0, 10, .inl qb)), (h2, .inl (T 0, 10, .inl qp)), (h3, .inl (T 0, 12, .inl qc)), (n0, .inr (5, [.int (nI nn), .int nm, .int nl, .int no, .int nu, .ref n1, .ref n2, .ref n3, .ref n4, .ref n5, .ref n6, .ref n7, .ref n8, .ref n9, .ref n10])), (n1, .inl (T 0, 10, .inl nf1)), (n2, .inl (T 0, 10, .inl nf2)), (n3, .inl (T 0, 10, .inl nf3)), (n4, .inl (T 0, 10, .inl nf4)), (n5, .inl (T 0, 10, .inl nf5)), (n9, .inl (T 0, 10, .inl nf9))] H locs := V _ [] rfl rfl rfl (by decide +kernel) rfl
      show W p l e _ s m args below meth c H locs _ _ _ (F0 m 18 ls [.int (nI 1)])
      refine lv_if_ne (tgt := 24) hx hb dX7_wave_18 (by decide) (fun _ => ?_) (fun c => absurd (show (nI 1) = 0 from c) (by decide +kernel))
      refine lv_aload_n hx hb dX7_wave_24 rfl (lv_at hl 0 rfl) ?_
      refine lv_iload_n hx hb dX7_wave_25 rfl (lv_at hl 1 rfl) ?_
      refine lv_iload_n hx hb dX7_wave_26 rfl (lv_at hl 2 rfl) ?_
      refine g_callV (wr := []) (nA := 2) hC V hl.1 (x_waveBreaks l D T o i step n0 s0 im iz rw t0 u0 h0 y0 sv h1 qx qy ql h2 h3 qb qp qc nn nm nl no nu n1 n2 n3 n4 n5 n6 n7 n8 n9 n10 nf1 nf2 nf3 nf4 nf5 nf9 (by first | assumption | omega) ⟨by omega, by omega⟩) w_637 w_639 w_s20 w_2 w_640 (by decide +kernel) rfl ⟨(Nat.le_of_ble_eq_true rfl), (Nat.le_of_ble_eq_true rfl)⟩ 0 (ci := 7) rfl rfl [0, 1, 2, 3, 4, 5, 6, 7, 8, 9, 10, 11] [] rfl rfl rfl rfl (by decide) (Nat.le_of_ble_eq_true rfl) dX7_wave_27 ⟨(Nat.le_of_ble_eq_true rfl), (Nat.le_of_ble_eq_true rfl)⟩ rfl (fun r w1 H locs hQ V => ?_)
      obtain ⟨z_7, x1_8, x2_9, x3_10, k1_11, k2_12, k3_13, rfl, rfl⟩ := hQ
      have V : gW D T A s [(o, .inr (7, [.ref n0, .ref s0, .ref im, .ref iz, .ref rw, .ref t0, .ref u0, .ref h0, .ref y0, sv])), (h0, .inr (3, [.ref h1, .int x1_8, .int x2_9, .int x3_10, .ref h2, .ref h3])), (h1, .inl (T 0, 10, .inl k1_11)), (h2, .inl (T 0, 10, .inl k2_12)), (h3, .inl (T 0, 12, .inl k3_13)), (n0, .inr (5, [.int (nI nn), .int nm, .int nl, .int no, .int nu, .ref n1, .ref n2, .ref n3, .ref n4, .ref n5, .ref n6, .ref n7, .ref n8, .ref n9, .ref n10])), (n1, .inl (T 0, 10, .inl nf1)), (n2, .inl (T 0, 10, .inl nf2)), (n3, .inl (T 0, 10, .inl nf3)), (n4, .inl (T 0, 10, .inl nf4)), (n5, .inl (T 0, 10, .inl nf5)), (n9, .inl (T 0, 10, .inl nf9))] H locs := V
      show W p l e _ s m args below meth c H locs _ _ _ (F0 m 30 ls [.int z_7])
      exact g_iret (Qr := (q_x_wave T o le step n0 s0 im iz rw t0 u0 h0 y0 sv h1 qx qy ql h2 h3 qb qp qc nn nm nl no nu n1 n2 n3 n4 n5 n6 n7 n8 n9 n10 nf1 nf2 nf3 nf4 nf5 nf9)) hC V ⟨(Nat.le_of_ble_eq_true rfl), (Nat.le_of_ble_eq_true rfl)⟩ ⟨z_7, x1_8, x2_9, x3_10, k1_11, k2_12, k3_13, rfl, rfl⟩ dX7_wave_30
    · have V : gW D T A s [(o, .inr (7, [.ref n0, .ref s0, .ref im, .ref iz, .ref rw, .ref t0, .ref u0, .ref h0, .ref y0, sv])), (h0, .inr (3, [.ref h1, .int qx, .int qy, .int ql, .ref h2, .ref h3])), (h1, .inl (T 0, 10, .inl qb)), (h2, .inl (T 0, 10, .inl qp)), (h3, .inl (T 0, 12, .inl qc)), (n0, .inr (5, [.int (nI nn), .int nm, .int nl, .int no, .int nu, .ref n1, .ref n2, .ref n3, .ref n4, .ref n5, .ref n6, .ref n7, .ref n8, .ref n9, .ref n10])), (n1, .inl (T 0, 10, .inl nf1)), (n2, .inl (T 0, 10, .inl nf2)), (n3, .inl (T 0, 10, .inl nf3)), (n4, .inl (T 0, 10, .inl nf4)), (n5, .inl (T 0, 10, .inl nf5)), (n9, .inl (T 0, 10, .inl nf9))] H locs := V _ [] rfl rfl rfl (by decide +kernel) rfl
      show W p l e _ s m args below meth c H locs _ _ _ (F0 m 18 ls [.int (nI 0)])
      refine lv_if_ne (tgt := 24) hx hb dX7_wave_18 (by decide) (fun c => absurd (show (nI 0) = 0 by decide +kernel) c) (fun _ => ?_)
      refine lv_bipush (v := (-3)) hx hb dX7_wave_21 (by decide +kernel) ?_
      exact g_iret (Qr := (q_x_wave T o le step n0 s0 im iz rw t0 u0 h0 y0 sv h1 qx qy ql h2 h3 qb qp qc nn nm nl no nu n1 n2 n3 n4 n5 n6 n7 n8 n9 n10 nf1 nf2 nf3 nf4 nf5 nf9)) hC V ⟨(Nat.le_of_ble_eq_true rfl), (Nat.le_of_ble_eq_true rfl)⟩ ⟨(-3), qx, qy, ql, qb, qp, qc, rfl, rfl⟩ dX7_wave_23
  · have V : gW D T A s [(o, .inr (7, [.ref n0, .ref s0, .ref im, .ref iz, .ref rw, .ref t0, .ref u0, .ref h0, .ref y0, sv])), (h0, .inr (3, [.ref h1, .int qx, .int qy, .int ql, .ref h2, .ref h3])), (h1, .inl (T 0, 10, .inl qb)), (h2, .inl (T 0, 10, .inl qp)), (h3, .inl (T 0, 12, .inl qc)), (n0, .inr (5, [.int (nI nn), .int nm, .int nl, .int no, .int nu, .ref n1, .ref n2, .ref n3, .ref n4, .ref n5, .ref n6, .ref n7, .ref n8, .ref n9, .ref n10])), (n1, .inl (T 0, 10, .inl nf1)), (n2, .inl (T 0, 10, .inl nf2)), (n3, .inl (T 0, 10, .inl nf3)), (n4, .inl (T 0, 10, .inl nf4)), (n5, .inl (T 0, 10, .inl nf5)), (n9, .inl (T 0, 10, .inl nf9))] H locs := V _ [] rfl rfl rfl (by decide +kernel) rfl
    show W p l e _ s m args below meth c H locs _ _ _ (F0 m 7 ls [.int (nI 0)])
    refine lv_if_eq (tgt := 21) hx hb dX7_wave_7 (by decide) (fun _ => ?_) (fun c => absurd (show (nI 0) = 0 by decide +kernel) c)
    refine lv_bipush (v := (-3)) hx hb dX7_wave_21 (by decide +kernel) ?_
    exact g_iret (Qr := (q_x_wave T o le step n0 s0 im iz rw t0 u0 h0 y0 sv h1 qx qy ql h2 h3 qb qp qc nn nm nl no nu n1 n2 n3 n4 n5 n6 n7 n8 n9 n10 nf1 nf2 nf3 nf4 nf5 nf9)) hC V ⟨(Nat.le_of_ble_eq_true rfl), (Nat.le_of_ble_eq_true rfl)⟩ ⟨(-3), qx, qy, ql, qb, qp, qc, rfl, rfl⟩ dX7_wave_23

def q_x_bestWave (T : Nat → ClassId) (o : Nat) (le : Int32) (n0 : Nat) (s0 : Nat) (im : Nat) (iz : Nat) (rw : Nat) (t0 : Nat) (u0 : Nat) (h0 : Nat) (y0 : Nat) (sv : Value) (h1 : Nat) (qx : Int32) (qy : Int32) (ql : Int32) (h2 : Nat) (h3 : Nat) (qb : Nat → Int32) (qp : Nat → Int32) (qc : Nat → Int32) (nn : Nat) (nm : Int32) (nl : Int32) (no : Int32) (nu : Int32) (n1 : Nat) (n2 : Nat) (n3 : Nat) (n4 : Nat) (n5 : Nat) (n6 : Nat) (n7 : Nat) (n8 : Nat) (n9 : Nat) (n10 : Nat) (nf1 : Nat → Int32) (nf2 : Nat → Int32) (nf3 : Nat → Int32) (nf4 : Nat → Int32) (nf5 : Nat → Int32) (nf9 : Nat → Int32) : Option Value → va_W → Prop := fun rr ww => (∃ (z : Int32) (x1 : Int32) (x2 : Int32) (x3 : Int32) (k1 : Nat → Int32) (k2 : Nat → Int32) (k3 : Nat → Int32), rr = some (.int z) ∧ ww = [(o, .inr (7, [.ref n0, .ref s0, .ref im, .ref iz, .ref rw, .ref t0, .ref u0, .ref h0, .ref y0, sv])), (h0, .inr (3, [.ref h1, .int x1, .int x2, .int x3, .ref h2, .ref h3])), (h1, .inl (T 0, 10, .inl k1)), (h2, .inl (T 0, 10, .inl k2)), (h3, .inl (T 0, 12, .inl k3)), (n0, .inr (5, [.int (nI nn), .int nm, .int nl, .int no, .int nu, .ref n1, .ref n2, .ref n3, .ref n4, .ref n5, .ref n6, .ref n7, .ref n8, .ref n9, .ref n10])), (n1, .inl (T 0, 10, .inl nf1)), (n2, .inl (T 0, 10, .inl nf2)), (n3, .inl (T 0, 10, .inl nf3)), (n4, .inl (T 0, 10, .inl nf4)), (n5, .inl (T 0, 10, .inl nf5)), (n9, .inl (T 0, 10, .inl nf9))])
set_option maxHeartbeats 4000000 in
set_option maxRecDepth 100000 in
theorem x_bestWave (l : Launch) (D : va_G) (T : Nat → ClassId) (o : Nat) (le : Int32) (n0 : Nat) (s0 : Nat) (im : Nat) (iz : Nat) (rw : Nat) (t0 : Nat) (u0 : Nat) (h0 : Nat) (y0 : Nat) (sv : Value) (h1 : Nat) (qx : Int32) (qy : Int32) (ql : Int32) (h2 : Nat) (h3 : Nat) (qb : Nat → Int32) (qp : Nat → Int32) (qc : Nat → Int32) (nn : Nat) (nm : Int32) (nl : Int32) (no : Int32) (nu : Int32) (n1 : Nat) (n2 : Nat) (n3 : Nat) (n4 : Nat) (n5 : Nat) (n6 : Nat) (n7 : Nat) (n8 : Nat) (n9 : Nat) (n10 : Nat) (nf1 : Nat → Int32) (nf2 : Nat → Int32) (nf3 : Nat → Int32) (nf4 : Nat → Int32) (nf5 : Nat → Int32) (nf9 : Nat → Int32) (h_n : nn ≤ 10) : Ct l yX7_bestWave cX7_bestWave 6 (some .int) 5 0 0 D T [.ref o, .int le] [(o, .inr (7, [.ref n0, .ref s0, .ref im, .ref iz, .ref rw, .ref t0, .ref u0, .ref h0, .ref y0, sv])), (h0, .inr (3, [.ref h1, .int qx, .int qy, .int ql, .ref h2, .ref h3])), (h1, .inl (T 0, 10, .inl qb)), (h2, .inl (T 0, 10, .inl qp)), (h3, .inl (T 0, 12, .inl qc)), (n0, .inr (5, [.int (nI nn), .int nm, .int nl, .int no, .int nu, .ref n1, .ref n2, .ref n3, .ref n4, .ref n5, .ref n6, .ref n7, .ref n8, .ref n9, .ref n10])), (n1, .inl (T 0, 10, .inl nf1)), (n2, .inl (T 0, 10, .inl nf2)), (n3, .inl (T 0, 10, .inl nf3)), (n4, .inl (T 0, 10, .inl nf4)), (n5, .inl (T 0, 10, .inl nf5)), (n9, .inl (T 0, 10, .inl nf9))] (q_x_bestWave T o le n0 s0 im iz rw t0 u0 h0 y0 sv h1 qx qy ql h2 h3 qb qp qc nn nm nl no nu n1 n2 n3 n4 n5 n6 n7 n8 n9 n10 nf1 nf2 nf3 nf4 nf5 nf9) := by
  refine Ct.of (cc := cX7_bestWave) (maxL := 6) (ret := (some .int)) (by decide) (Nat.le_of_ble_eq_true rfl) ?_
  intro p e s m args below meth c A ls hC hnm V hl
  obtain ⟨hx, hb, hr, hml, hown, hts, hlocks⟩ := id hC
  generalize hH : s.heap = H at V ⊢
  clear hH
  have hl : lv_has ls 6 [(0, .ref o), (1, .int le)] := hl
  generalize hlo : ([] : List Loc) = locs at V ⊢
  clear hlo
  refine lv_iload_n hx hb dX7_bestWave_0 rfl (lv_at hl 1 rfl) ?_
  refine lv_iconst (v := (nI 1)) hx hb dX7_bestWave_1 (by decide +kernel) ?_
  refine lv_bipush (v := (nI 12)) hx hb dX7_bestWave_2 (by decide +kernel) ?_
  refine g_callSU (nA := 3) hC V hl.1 (c_isWithin l D T le (nI 1) (nI 12)) w_292 w_293 w_2 w_294 (by decide +kernel) rfl ⟨(Nat.le_of_ble_eq_true rfl), (Nat.le_of_ble_eq_true rfl)⟩ [] rfl rfl (Nat.le_of_ble_eq_true rfl) dX7_bestWave_4 ⟨(Nat.le_of_ble_eq_true rfl), (Nat.le_of_ble_eq_true rfl)⟩ rfl (fun r w1 H locs hQ V => ?_)
  rcases hQ with ⟨rfl, rfl, f_1, f_2⟩ | ⟨rfl, rfl, f_3⟩
  · have V : gW D T A s [(o, .inr (7, [.ref n0, .ref s0, .ref im, .ref iz, .ref rw, .ref t0, .ref u0, .ref h0, .ref y0, sv])), (h0, .inr (3, [.ref h1, .int qx, .int qy, .int ql, .ref h2, .ref h3])), (h1, .inl (T 0, 10, .inl qb)), (h2, .inl (T 0, 10, .inl qp)), (h3, .inl (T 0, 12, .inl qc)), (n0, .inr (5, [.int (nI nn), .int nm, .int nl, .int no, .int nu, .ref n1, .ref n2, .ref n3, .ref n4, .ref n5, .ref n6, .ref n7, .ref n8, .ref n9, .ref n10])), (n1, .inl (T 0, 10, .inl nf1)), (n2, .inl (T 0, 10, .inl nf2)), (n3, .inl (T 0, 10, .inl nf3)), (n4, .inl (T 0, 10, .inl nf4)), (n5, .inl (T 0, 10, .inl nf5)), (n9, .inl (T 0, 10, .inl nf9))] H locs := V _ [] rfl rfl rfl (by decide +kernel) rfl
    show W p l e _ s m args below meth c H locs _ _ _ (F0 m 7 ls [.int (nI 1)])
    obtain ⟨i, hi1, hi2, ei⟩ := g_rng (by first | decide | omega) (by first | decide | omega) f_1 f_2
    rw [ei] at hl
    refine lv_if_ne (tgt := 13) hx hb dX7_bestWave_7 (by decide) (fun _ => ?_) (fun c => absurd (show (nI 1) = 0 from c) (by decide +kernel))
    refine lv_iconst (v := (nI 0)) hx hb dX7_bestWave_13 (by decide +kernel) ?_
    refine lv_istore_n (lv' := [(2, .int (nI 0)), (0, .ref o), (1, .int (nI i))]) hx hb dX7_bestWave_14 rfl hl (by decide) rfl (fun ls hl => ?_)
    refine lv_iconst (v := (nI 0)) hx hb dX7_bestWave_15 (by decide +kernel) ?_
    refine lv_istore_n (lv' := [(3, .int (nI 0)), (2, .int (nI 0)), (0, .ref o), (1, .int (nI i))]) hx hb dX7_bestWave_16 rfl hl (by decide) rfl (fun ls hl => ?_)
    refine lv_iconst (v := (nI 0)) hx hb dX7_bestWave_17 (by decide +kernel) ?_
    refine lv_istore (lv' := [(4, .int (nI 0)), (3, .int (nI 0)), (2, .int (nI 0)), (0, .ref o), (1, .int (nI i))]) hx hb dX7_bestWave_18 hl (by decide) rfl (fun ls hl => ?_)
    have L_4 : ∀ (fu : Nat) (k20 : Nat) (x20_3 : Int32) (x20_2 : Int32) (w1 : Int32) (w2 : Int32) (w3 : Int32) (ga : Nat → Int32) (gb : Nat → Int32) (gc : Nat → Int32), k20 ≤ i → i - k20 < fu → ∀ (H : Heap) (locs : List Loc) (ls : Array Slot), gW D T A s [(o, .inr (7, [.ref n0, .ref s0, .ref im, .ref iz, .ref rw, .ref t0, .ref u0, .ref h0, .ref y0, sv])), (h0, .inr (3, [.ref h1, .int w1, .int w2, .int w3, .ref h2, .ref h3])), (h1, .inl (T 0, 10, .inl ga)), (h2, .inl (T 0, 10, .inl gb)), (h3, .inl (T 0, 12, .inl gc)), (n0, .inr (5, [.int (nI nn), .int nm, .int nl, .int no, .int nu, .ref n1, .ref n2, .ref n3, .ref n4, .ref n5, .ref n6, .ref n7, .ref n8, .ref n9, .ref n10])), (n1, .inl (T 0, 10, .inl nf1)), (n2, .inl (T 0, 10, .inl nf2)), (n3, .inl (T 0, 10, .inl nf3)), (n4, .inl (T 0, 10, .inl nf4)), (n5, .inl (T 0, 10, .inl nf5)), (n9, .inl (T 0, 10, .inl nf9))] H locs → lv_has ls 6 [(4, .int (nI k20)), (3, .int x20_3), (2, .int x20_2), (0, .ref o), (1, .int (nI i))] → W p l e (rmD 5 0 0) s m args below meth c H locs 0 0 (MQ below (gQ D A (q_x_bestWave T o le n0 s0 im iz rw t0 u0 h0 y0 sv h1 qx qy ql h2 h3 qb qp qc nn nm nl no nu n1 n2 n3 n4 n5 n6 n7 n8 n9 n10 nf1 nf2 nf3 nf4 nf5 nf9)) args s 0 0 A) (F0 m 20 ls []) := by
      intro fu_20
      induction fu_20 with
      | zero => intro k20 x20_3 x20_2 w1 w2 w3 ga gb gc hk20 hmu; exact absurd hmu (Nat.not_lt_zero _)
      | succ fu_20 ih_20 =>
        intro k20 x20_3 x20_2 w1 w2 w3 ga gb gc hk20 hmu_20 H locs ls V hl
        refine lv_iload hx hb dX7_bestWave_20 (lv_at hl 0 rfl) ?_
        refine lv_iload_n hx hb dX7_bestWave_22 rfl (lv_at hl 4 rfl) ?_
        refine lv_icmp_ge (tgt := 62) hx hb dX7_bestWave_23 (by decide) (fun c_5 => ?_) (fun c_5 => ?_)
        · skip
          have c_5 := b_le (by omega) (by omega) c_5
          refine lv_iload_n hx hb dX7_bestWave_62 rfl (lv_at hl 2 rfl) ?_
          exact g_iret (Qr := (q_x_bestWave T o le n0 s0 im iz rw t0 u0 h0 y0 sv h1 qx qy ql h2 h3 qb qp qc nn nm nl no nu n1 n2 n3 n4 n5 n6 n7 n8 n9 n10 nf1 nf2 nf3 nf4 nf5 nf9)) hC V ⟨(Nat.le_of_ble_eq_true rfl), (Nat.le_of_ble_eq_true rfl)⟩ ⟨x20_2, w1, w2, w3, ga, gb, gc, rfl, rfl⟩ dX7_bestWave_63
        · skip
          have c_5 := b_nle (by omega) (by omega) c_5
          refine lv_aload_n hx hb dX7_bestWave_26 rfl (lv_at hl 3 rfl) ?_
          refine lv_iload_n hx hb dX7_bestWave_27 rfl (lv_at hl 4 rfl) ?_
          refine lv_iload hx hb dX7_bestWave_28 (lv_at hl 0 rfl) ?_
          refine g_callV (wr := []) (nA := 2) hC V hl.1 (x_waveBreaks l D T o i (nI k20) n0 s0 im iz rw t0 u0 h0 y0 sv h1 w1 w2 w3 h2 h3 ga gb gc nn nm nl no nu n1 n2 n3 n4 n5 n6 n7 n8 n9 n10 nf1 nf2 nf3 nf4 nf5 nf9 (by first | assumption | omega) ⟨by omega, by omega⟩) w_637 w_639 w_s20 w_2 w_640 (by decide +kernel) rfl ⟨(Nat.le_of_ble_eq_true rfl), (Nat.le_of_ble_eq_true rfl)⟩ 0 (ci := 7) rfl rfl [0, 1, 2, 3, 4, 5, 6, 7, 8, 9, 10, 11] [] rfl rfl rfl rfl (by decide) (Nat.le_of_ble_eq_true rfl) dX7_bestWave_30 ⟨(Nat.le_of_ble_eq_true rfl), (Nat.le_of_ble_eq_true rfl)⟩ rfl (fun r w1 H locs hQ V => ?_)
          obtain ⟨z_6, x1_7, x2_8, x3_9, k1_10, k2_11, k3_12, rfl, rfl⟩ := hQ
          have V : gW D T A s [(o, .inr (7, [.ref n0, .ref s0, .ref im, .ref iz, .ref rw, .ref t0, .ref u0, .ref h0, .ref y0, sv])), (h0, .inr (3, [.ref h1, .int x1_7, .int x2_8, .int x3_9, .ref h2, .ref h3])), (h1, .inl (T 0, 10, .inl k1_10)), (h2, .inl (T 0, 10, .inl k2_11)), (h3, .inl (T 0, 12, .inl k3_12)), (n0, .inr (5, [.int (nI nn), .int nm, .int nl, .int no, .int nu, .ref n1, .ref n2, .ref n3, .ref n4, .ref n5, .ref n6, .ref n7, .ref n8, .ref n9, .ref n10])), (n1, .inl (T 0, 10, .inl nf1)), (n2, .inl (T 0, 10, .inl nf2)), (n3, .inl (T 0, 10, .inl nf3)), (n4, .inl (T 0, 10, .inl nf4)), (n5, .inl (T 0, 10, .inl nf5)), (n9, .inl (T 0, 10, .inl nf9))] H locs := V
          show W p l e _ s m args below meth c H locs _ _ _ (F0 m 33 ls [.int z_6])
          refine lv_istore (lv' := [(5, .int z_6), (4, .int (nI k20)), (3, .int x20_3), (2, .int x20_2), (0, .ref o), (1, .int (nI i))]) hx hb dX7_bestWave_33 hl (by decide) rfl (fun ls hl => ?_)
          refine lv_iload hx hb dX7_bestWave_35 (lv_at hl 0 rfl) ?_
          refine lv_iconst (v := (-1)) hx hb dX7_bestWave_37 (by decide +kernel) ?_
          refine lv_icmp_ne (tgt := 44) hx hb dX7_bestWave_38 (by decide) (fun c_13 => ?_) (fun c_13 => ?_)
          · skip
            refine lv_iload hx hb dX7_bestWave_44 (lv_at hl 0 rfl) ?_
            refine lv_iload_n hx hb dX7_bestWave_46 rfl (lv_at hl 2 rfl) ?_
            refine lv_icmp_le (tgt := 56) hx hb dX7_bestWave_47 (by decide) (fun c_14 => ?_) (fun c_14 => ?_)
            · skip
              refine lv_iinc (v := (nI (k20 + 1))) (lv' := [(4, .int (nI (k20 + 1))), (5, .int z_6), (3, .int x20_3), (2, .int x20_2), (0, .ref o), (1, .int (nI i))]) hx hb dX7_bestWave_56 hl (k := 1) rfl (nI_1 _) (by decide) rfl (fun ls hl => ?_)
              refine lv_goto (tgt := 20) hx hb dX7_bestWave_59 (by decide) ?_
              exact ih_20 (k20 + 1) x20_3 x20_2 x1_7 x2_8 x3_9 k1_10 k2_11 k3_12 (by omega) (by omega) _ _ _ V (lv_sub hl [0, 2, 3, 4, 5] rfl)
            · skip
              refine lv_iload hx hb dX7_bestWave_50 (lv_at hl 0 rfl) ?_
              refine lv_istore_n (lv' := [(3, .int z_6), (5, .int z_6), (4, .int (nI k20)), (2, .int x20_2), (0, .ref o), (1, .int (nI i))]) hx hb dX7_bestWave_52 rfl hl (by decide) rfl (fun ls hl => ?_)
              refine lv_iload hx hb dX7_bestWave_53 (lv_at hl 2 rfl) ?_
              refine lv_istore_n (lv' := [(2, .int (nI k20)), (3, .int z_6), (5, .int z_6), (4, .int (nI k20)), (0, .ref o), (1, .int (nI i))]) hx hb dX7_bestWave_55 rfl hl (by decide) rfl (fun ls hl => ?_)
              refine lv_iinc (v := (nI (k20 + 1))) (lv' := [(4, .int (nI (k20 + 1))), (2, .int (nI k20)), (3, .int z_6), (5, .int z_6), (0, .ref o), (1, .int (nI i))]) hx hb dX7_bestWave_56 hl (k := 3) rfl (nI_1 _) (by decide) rfl (fun ls hl => ?_)
              refine lv_goto (tgt := 20) hx hb dX7_bestWave_59 (by decide) ?_
              exact ih_20 (k20 + 1) z_6 (nI k20) x1_7 x2_8 x3_9 k1_10 k2_11 k3_12 (by omega) (by omega) _ _ _ V (lv_sub hl [0, 2, 1, 4, 5] rfl)
          · skip
            refine lv_iload hx hb dX7_bestWave_41 (lv_at hl 1 rfl) ?_
            exact g_iret (Qr := (q_x_bestWave T o le n0 s0 im iz rw t0 u0 h0 y0 sv h1 qx qy ql h2 h3 qb qp qc nn nm nl no nu n1 n2 n3 n4 n5 n6 n7 n8 n9 n10 nf1 nf2 nf3 nf4 nf5 nf9)) hC V ⟨(Nat.le_of_ble_eq_true rfl), (Nat.le_of_ble_eq_true rfl)⟩ ⟨(nI k20), x1_7, x2_8, x3_9, k1_10, k2_11, k3_12, rfl, rfl⟩ dX7_bestWave_43
    exact L_4 _ 0 (nI 0) (nI 0) qx qy ql qb qp qc (by omega) (Nat.lt_succ_self _) _ _ _ V (lv_sub hl [0, 1, 2, 3, 4] rfl)
  · have V : gW D T A s [(o, .inr (7, [.ref n0, .ref s0, .ref im, .ref iz, .ref rw, .ref t0, .ref u0, .ref h0, .ref y0, sv])), (h0, .inr (3, [.ref h1, .int qx, .int qy, .int ql, .ref h2, .ref h3])), (h1, .inl (T 0, 10, .inl qb)), (h2, .inl (T 0, 10, .inl qp)), (h3, .inl (T 0, 12, .inl qc)), (n0, .inr (5, [.int (nI nn), .int nm, .int nl, .int no, .int nu, .ref n1, .ref n2, .ref n3, .ref n4, .ref n5, .ref n6, .ref n7, .ref n8, .ref n9, .ref n10])), (n1, .inl (T 0, 10, .inl nf1)), (n2, .inl (T 0, 10, .inl nf2)), (n3, .inl (T 0, 10, .inl nf3)), (n4, .inl (T 0, 10, .inl nf4)), (n5, .inl (T 0, 10, .inl nf5)), (n9, .inl (T 0, 10, .inl nf9))] H locs := V _ [] rfl rfl rfl (by decide +kernel) rfl
    show W p l e _ s m args below meth c H locs _ _ _ (F0 m 7 ls [.int (nI 0)])
    refine lv_if_ne (tgt := 13) hx hb dX7_bestWave_7 (by decide) (fun c => absurd (show (nI 0) = 0 by decide +kernel) c) (fun _ => ?_)
    refine lv_bipush (v := (-3)) hx hb dX7_bestWave_10 (by decide +kernel) ?_
    exact g_iret (Qr := (q_x_bestWave T o le n0 s0 im iz rw t0 u0 h0 y0 sv h1 qx qy ql h2 h3 qb qp qc nn nm nl no nu n1 n2 n3 n4 n5 n6 n7 n8 n9 n10 nf1 nf2 nf3 nf4 nf5 nf9)) hC V ⟨(Nat.le_of_ble_eq_true rfl), (Nat.le_of_ble_eq_true rfl)⟩ ⟨(-3), qx, qy, ql, qb, qp, qc, rfl, rfl⟩ dX7_bestWave_12

def q_x_bestRound (T : Nat → ClassId) (o : Nat) (le : Int32) (wh : Int32) (n0 : Nat) (s0 : Nat) (im : Nat) (iz : Nat) (rw : Nat) (t0 : Nat) (u0 : Nat) (h0 : Nat) (y0 : Nat) (sv : Value) (h1 : Nat) (qx : Int32) (qy : Int32) (ql : Int32) (h2 : Nat) (h3 : Nat) (qb : Nat → Int32) (qp : Nat → Int32) (qc : Nat → Int32) (nn : Nat) (nm : Int32) (nl : Int32) (no : Int32) (nu : Int32) (n1 : Nat) (n2 : Nat) (n3 : Nat) (n4 : Nat) (n5 : Nat) (n6 : Nat) (n7 : Nat) (n8 : Nat) (n9 : Nat) (n10 : Nat) (nf1 : Nat → Int32) (nf2 : Nat → Int32) (nf3 : Nat → Int32) (nf4 : Nat → Int32) (nf5 : Nat → Int32) (nf9 : Nat → Int32) : Option Value → va_W → Prop := fun rr ww => (∃ (z : Int32) (x1 : Int32) (x2 : Int32) (x3 : Int32) (k1 : Nat → Int32) (k2 : Nat → Int32) (k3 : Nat → Int32), rr = some (.int z) ∧ ww = [(o, .inr (7, [.ref n0, .ref s0, .ref im, .ref iz, .ref rw, .ref t0, .ref u0, .ref h0, .ref y0, sv])), (h0, .inr (3, [.ref h1, .int x1, .int x2, .int x3, .ref h2, .ref h3])), (h1, .inl (T 0, 10, .inl k1)), (h2, .inl (T 0, 10, .inl k2)), (h3, .inl (T 0, 12, .inl k3)), (n0, .inr (5, [.int (nI nn), .int nm, .int nl, .int no, .int nu, .ref n1, .ref n2, .ref n3, .ref n4, .ref n5, .ref n6, .ref n7, .ref n8, .ref n9, .ref n10])), (n1, .inl (T 0, 10, .inl nf1)), (n2, .inl (T 0, 10, .inl nf2)), (n3, .inl (T 0, 10, .inl nf3)), (n4, .inl (T 0, 10, .inl nf4)), (n5, .inl (T 0, 10, .inl nf5)), (n9, .inl (T 0, 10, .inl nf9))])
set_option maxHeartbeats 4000000 in
set_option maxRecDepth 100000 in
theorem x_bestRound (l : Launch) (D : va_G) (T : Nat → ClassId) (o : Nat) (le : Int32) (wh : Int32) (n0 : Nat) (s0 : Nat) (im : Nat) (iz : Nat) (rw : Nat) (t0 : Nat) (u0 : Nat) (h0 : Nat) (y0 : Nat) (sv : Value) (h1 : Nat) (qx : Int32) (qy : Int32) (ql : Int32) (h2 : Nat) (h3 : Nat) (qb : Nat → Int32) (qp : Nat → Int32) (qc : Nat → Int32) (nn : Nat) (nm : Int32) (nl : Int32) (no : Int32) (nu : Int32) (n1 : Nat) (n2 : Nat) (n3 : Nat) (n4 : Nat) (n5 : Nat) (n6 : Nat) (n7 : Nat) (n8 : Nat) (n9 : Nat) (n10 : Nat) (nf1 : Nat → Int32) (nf2 : Nat → Int32) (nf3 : Nat → Int32) (nf4 : Nat → Int32) (nf5 : Nat → Int32) (nf9 : Nat → Int32) (h_n : nn ≤ 10) : Ct l yX7_bestRound cX7_bestRound 4 (some .int) 5 0 0 D T [.ref o, .int le, .int wh] [(o, .inr (7, [.ref n0, .ref s0, .ref im, .ref iz, .ref rw, .ref t0, .ref u0, .ref h0, .ref y0, sv])), (h0, .inr (3, [.ref h1, .int qx, .int qy, .int ql, .ref h2, .ref h3])), (h1, .inl (T 0, 10, .inl qb)), (h2, .inl (T 0, 10, .inl qp)), (h3, .inl (T 0, 12, .inl qc)), (n0, .inr (5, [.int (nI nn), .int nm, .int nl, .int no, .int nu, .ref n1, .ref n2, .ref n3, .ref n4, .ref n5, .ref n6, .ref n7, .ref n8, .ref n9, .ref n10])), (n1, .inl (T 0, 10, .inl nf1)), (n2, .inl (T 0, 10, .inl nf2)), (n3, .inl (T 0, 10, .inl nf3)), (n4, .inl (T 0, 10, .inl nf4)), (n5, .inl (T 0, 10, .inl nf5)), (n9, .inl (T 0, 10, .inl nf9))] (q_x_bestRound T o le wh n0 s0 im iz rw t0 u0 h0 y0 sv h1 qx qy ql h2 h3 qb qp qc nn nm nl no nu n1 n2 n3 n4 n5 n6 n7 n8 n9 n10 nf1 nf2 nf3 nf4 nf5 nf9) := by
  refine Ct.of (cc := cX7_bestRound) (maxL := 4) (ret := (some .int)) (by decide) (Nat.le_of_ble_eq_true rfl) ?_
  intro p e s m args below meth c A ls hC hnm V hl
  obtain ⟨hx, hb, hr, hml, hown, hts, hlocks⟩ := id hC
  generalize hH : s.heap = H at V ⊢
  clear hH
  have hl : lv_has ls 4 [(0, .ref o), (1, .int le), (2, .int wh)] := hl
  generalize hlo : ([] : List Loc) = locs at V ⊢
  clear hlo
  refine lv_iload_n hx hb dX7_bestRound_0 rfl (lv_at hl 2 rfl) ?_
  refine lv_if_eq (tgt := 21) hx hb dX7_bestRound_1 (by decide) (fun c_1 => ?_) (fun c_1 => ?_)
  · skip
    refine lv_iload_n hx hb dX7_bestRound_21 rfl (lv_at hl 1 rfl) ?_
    refine lv_iconst (v := (nI 1)) hx hb dX7_bestRound_22 (by decide +kernel) ?_
    refine lv_bipush (v := (nI 10)) hx hb dX7_bestRound_23 (by decide +kernel) ?_
    refine g_callSU (nA := 3) hC V hl.1 (c_isWithin l D T le (nI 1) (nI 10)) w_292 w_293 w_2 w_294 (by decide +kernel) rfl ⟨(Nat.le_of_ble_eq_true rfl), (Nat.le_of_ble_eq_true rfl)⟩ [] rfl rfl (Nat.le_of_ble_eq_true rfl) dX7_bestRound_25 ⟨(Nat.le_of_ble_eq_true rfl), (Nat.le_of_ble_eq_true rfl)⟩ rfl (fun r w1 H locs hQ V => ?_)
    rcases hQ with ⟨rfl, rfl, f_2, f_3⟩ | ⟨rfl, rfl, f_4⟩
    · have V : gW D T A s [(o, .inr (7, [.ref n0, .ref s0, .ref im, .ref iz, .ref rw, .ref t0, .ref u0, .ref h0, .ref y0, sv])), (h0, .inr (3, [.ref h1, .int qx, .int qy, .int ql, .ref h2, .ref h3])), (h1, .inl (T 0, 10, .inl qb)), (h2, .inl (T 0, 10, .inl qp)), (h3, .inl (T 0, 12, .inl qc)), (n0, .inr (5, [.int (nI nn), .int nm, .int nl, .int no, .int nu, .ref n1, .ref n2, .ref n3, .ref n4, .ref n5, .ref n6, .ref n7, .ref n8, .ref n9, .ref n10])), (n1, .inl (T 0, 10, .inl nf1)), (n2, .inl (T 0, 10, .inl nf2)), (n3, .inl (T 0, 10, .inl nf3)), (n4, .inl (T 0, 10, .inl nf4)), (n5, .inl (T 0, 10, .inl nf5)), (n9, .inl (T 0, 10, .inl nf9))] H locs := V _ [] rfl rfl rfl (by decide +kernel) rfl
      show W p l e _ s m args below meth c H locs _ _ _ (F0 m 28 ls [.int (nI 1)])
      obtain ⟨i, hi1, hi2, ei⟩ := g_rng (by first | decide | omega) (by first | decide | omega) f_2 f_3
      rw [ei] at hl
      have hmul : nn * i ≤ 10 * 10 := Nat.mul_le_mul h_n (by omega)
      refine lv_if_ne (tgt := 34) hx hb dX7_bestRound_28 (by decide) (fun _ => ?_) (fun c => absurd (show (nI 1) = 0 from c) (by decide +kernel))
      refine lv_aload_n hx hb dX7_bestRound_34 rfl (lv_at hl 0 rfl) ?_
      refine g_get hC V (ci := 7) uwX7 0 rfl rfl 0 (by decide) w_249 rfl rfl dX7_bestRound_35 ?_
      refine g_get hC V (ci := 5) uwX5 5 rfl rfl 0 (by decide) w_38 rfl rfl dX7_bestRound_38 ?_
      refine lv_iload_n hx hb dX7_bestRound_41 rfl (lv_at hl 1 rfl) ?_
      refine lv_imul hx hb dX7_bestRound_42 ?_
      refine g_vi (y := (nI (nn * i))) (pk_mul _ _) ?_
      refine lv_bipush (v := (nI 10)) hx hb dX7_bestRound_43 (by decide +kernel) ?_
      refine lv_icmp_le (tgt := 51) hx hb dX7_bestRound_45 (by decide) (fun c_5 => ?_) (fun c_5 => ?_)
      · skip
        have c_5 := b_le (by omega) (by omega) c_5
        refine lv_aload_n hx hb dX7_bestRound_51 rfl (lv_at hl 0 rfl) ?_
        refine g_get hC V (ci := 7) uwX7 0 rfl rfl 7 (by decide) w_256 rfl rfl dX7_bestRound_52 ?_
        refine lv_aload_n hx hb dX7_bestRound_55 rfl (lv_at hl 0 rfl) ?_
        refine g_get hC V (ci := 7) uwX7 0 rfl rfl 0 (by decide) w_249 rfl rfl dX7_bestRound_56 ?_
        refine lv_iload_n hx hb dX7_bestRound_59 rfl (lv_at hl 1 rfl) ?_
        refine g_callVU (nA := 2) hC V hl.1 (h_seekBest l D T h0 n0 i h1 qx qy ql h2 h3 qb qp qc nn nm nl no nu n1 n2 n3 n4 n5 n6 n7 n8 n9 n10 nf1 nf2 nf3 nf4 nf5 nf9 (by first | assumption | omega) ⟨by omega, by omega⟩ (by assumption)) w_656 w_657 w_658 w_6 w_659 (by decide +kernel) rfl ⟨(Nat.le_of_ble_eq_true rfl), (Nat.le_of_ble_eq_true rfl)⟩ 1 (ci := 3) rfl rfl [1, 2, 3, 4, 5, 6, 7, 8, 9, 10, 11] rfl rfl (Nat.le_of_ble_eq_true rfl) dX7_bestRound_60 ⟨(Nat.le_of_ble_eq_true rfl), (Nat.le_of_ble_eq_true rfl)⟩ rfl (fun r w1 H locs hQ V => ?_)
        obtain ⟨z_6, g1_7, g2_8, g3_9, rfl, rfl⟩ := hQ
        have V : gW D T A s [(o, .inr (7, [.ref n0, .ref s0, .ref im, .ref iz, .ref rw, .ref t0, .ref u0, .ref h0, .ref y0, sv])), (h0, .inr (3, [.ref h1, .int qx, .int qy, .int (nI i), .ref h2, .ref h3])), (h1, .inl (T 0, 10, .inl g1_7)), (h2, .inl (T 0, 10, .inl g2_8)), (h3, .inl (T 0, 12, .inl g3_9)), (n0, .inr (5, [.int (nI nn), .int nm, .int nl, .int no, .int nu, .ref n1, .ref n2, .ref n3, .ref n4, .ref n5, .ref n6, .ref n7, .ref n8, .ref n9, .ref n10])), (n1, .inl (T 0, 10, .inl nf1)), (n2, .inl (T 0, 10, .inl nf2)), (n3, .inl (T 0, 10, .inl nf3)), (n4, .inl (T 0, 10, .inl nf4)), (n5, .inl (T 0, 10, .inl nf5)), (n9, .inl (T 0, 10, .inl nf9))] H locs := V _ [1, 0, 0, 0, 0, 0, 0, 0, 0, 0, 0] rfl rfl rfl (by decide +kernel) rfl
        show W p l e _ s m args below meth c H locs _ _ _ (F0 m 63 ls [.int z_6])
        refine lv_istore_n (lv' := [(3, .int z_6), (0, .ref o), (1, .int (nI i)), (2, .int wh)]) hx hb dX7_bestRound_63 rfl hl (by decide) rfl (fun ls hl => ?_)
        refine lv_iload_n hx hb dX7_bestRound_64 rfl (lv_at hl 3 rfl) ?_
        refine lv_if_eq (tgt := 73) hx hb dX7_bestRound_65 (by decide) (fun c_10 => ?_) (fun c_10 => ?_)
        · skip
          refine lv_iload_n hx hb dX7_bestRound_73 rfl (lv_at hl 0 rfl) ?_
          refine lv_goto (tgt := 89) hx hb dX7_bestRound_74 (by decide) ?_
          exact g_iret (Qr := (q_x_bestRound T o le wh n0 s0 im iz rw t0 u0 h0 y0 sv h1 qx qy ql h2 h3 qb qp qc nn nm nl no nu n1 n2 n3 n4 n5 n6 n7 n8 n9 n10 nf1 nf2 nf3 nf4 nf5 nf9)) hC V ⟨(Nat.le_of_ble_eq_true rfl), (Nat.le_of_ble_eq_true rfl)⟩ ⟨z_6, qx, qy, (nI i), g1_7, g2_8, g3_9, rfl, rfl⟩ dX7_bestRound_89
        · skip
          refine lv_iload_n hx hb dX7_bestRound_68 rfl (lv_at hl 0 rfl) ?_
          refine lv_iconst (v := (-1)) hx hb dX7_bestRound_69 (by decide +kernel) ?_
          refine lv_icmp_ne (tgt := 77) hx hb dX7_bestRound_70 (by decide) (fun c_11 => ?_) (fun c_11 => ?_)
          · skip
            refine lv_aload_n hx hb dX7_bestRound_77 rfl (lv_at hl 1 rfl) ?_
            refine g_get hC V (ci := 7) uwX7 0 rfl rfl 7 (by decide) w_256 rfl rfl dX7_bestRound_78 ?_
            refine g_get hC V (ci := 3) uwX3 1 rfl rfl 0 (by decide) w_184 rfl rfl dX7_bestRound_81 ?_
            refine lv_iload_n hx hb dX7_bestRound_84 rfl (lv_at hl 3 rfl) ?_
            refine lv_bipush (v := (nI 10)) hx hb dX7_bestRound_85 (by decide +kernel) ?_
            refine lv_isub hx hb dX7_bestRound_87 ?_
            exact absurd (by assumption) ‹¬ wh = 0›
          · skip
            refine lv_iload_n hx hb dX7_bestRound_73 rfl (lv_at hl 0 rfl) ?_
            refine lv_goto (tgt := 89) hx hb dX7_bestRound_74 (by decide) ?_
            exact g_iret (Qr := (q_x_bestRound T o le wh n0 s0 im iz rw t0 u0 h0 y0 sv h1 qx qy ql h2 h3 qb qp qc nn nm nl no nu n1 n2 n3 n4 n5 n6 n7 n8 n9 n10 nf1 nf2 nf3 nf4 nf5 nf9)) hC V ⟨(Nat.le_of_ble_eq_true rfl), (Nat.le_of_ble_eq_true rfl)⟩ ⟨z_6, qx, qy, (nI i), g1_7, g2_8, g3_9, rfl, rfl⟩ dX7_bestRound_89
      · skip
        have c_5 := b_nle (by omega) (by omega) c_5
        refine lv_bipush (v := (-4)) hx hb dX7_bestRound_48 (by decide +kernel) ?_
        exact g_iret (Qr := (q_x_bestRound T o le wh n0 s0 im iz rw t0 u0 h0 y0 sv h1 qx qy ql h2 h3 qb qp qc nn nm nl no nu n1 n2 n3 n4 n5 n6 n7 n8 n9 n10 nf1 nf2 nf3 nf4 nf5 nf9)) hC V ⟨(Nat.le_of_ble_eq_true rfl), (Nat.le_of_ble_eq_true rfl)⟩ ⟨(-4), qx, qy, ql, qb, qp, qc, rfl, rfl⟩ dX7_bestRound_50
    · have V : gW D T A s [(o, .inr (7, [.ref n0, .ref s0, .ref im, .ref iz, .ref rw, .ref t0, .ref u0, .ref h0, .ref y0, sv])), (h0, .inr (3, [.ref h1, .int qx, .int qy, .int ql, .ref h2, .ref h3])), (h1, .inl (T 0, 10, .inl qb)), (h2, .inl (T 0, 10, .inl qp)), (h3, .inl (T 0, 12, .inl qc)), (n0, .inr (5, [.int (nI nn), .int nm, .int nl, .int no, .int nu, .ref n1, .ref n2, .ref n3, .ref n4, .ref n5, .ref n6, .ref n7, .ref n8, .ref n9, .ref n10])), (n1, .inl (T 0, 10, .inl nf1)), (n2, .inl (T 0, 10, .inl nf2)), (n3, .inl (T 0, 10, .inl nf3)), (n4, .inl (T 0, 10, .inl nf4)), (n5, .inl (T 0, 10, .inl nf5)), (n9, .inl (T 0, 10, .inl nf9))] H locs := V _ [] rfl rfl rfl (by decide +kernel) rfl
      show W p l e _ s m args below meth c H locs _ _ _ (F0 m 28 ls [.int (nI 0)])
      refine lv_if_ne (tgt := 34) hx hb dX7_bestRound_28 (by decide) (fun c => absurd (show (nI 0) = 0 by decide +kernel) c) (fun _ => ?_)
      refine lv_bipush (v := (-3)) hx hb dX7_bestRound_31 (by decide +kernel) ?_
      exact g_iret (Qr := (q_x_bestRound T o le wh n0 s0 im iz rw t0 u0 h0 y0 sv h1 qx qy ql h2 h3 qb qp qc nn nm nl no nu n1 n2 n3 n4 n5 n6 n7 n8 n9 n10 nf1 nf2 nf3 nf4 nf5 nf9)) hC V ⟨(Nat.le_of_ble_eq_true rfl), (Nat.le_of_ble_eq_true rfl)⟩ ⟨(-3), qx, qy, ql, qb, qp, qc, rfl, rfl⟩ dX7_bestRound_33
  · skip
    refine lv_aload_n hx hb dX7_bestRound_4 rfl (lv_at hl 0 rfl) ?_
    refine g_get hC V (ci := 7) uwX7 0 rfl rfl 0 (by decide) w_249 rfl rfl dX7_bestRound_5 ?_
    refine lv_iload_n hx hb dX7_bestRound_8 rfl (lv_at hl 2 rfl) ?_
    refine lv_bipush (v := (nI 10)) hx hb dX7_bestRound_9 (by decide +kernel) ?_
    refine lv_isub hx hb dX7_bestRound_11 ?_
    refine g_callVU (nA := 1) hC V hl.1 (s_isSmith l D T n0 (wh - (nI 10)) nn nm nl no nu n1 n2 n3 n4 n5 n6 n7 n8 n9 n10 (by first | assumption | omega)) w_425 w_426 w_427 w_3 w_428 (by decide +kernel) rfl ⟨(Nat.le_of_ble_eq_true rfl), (Nat.le_of_ble_eq_true rfl)⟩ 5 (ci := 5) rfl rfl [5] rfl rfl (Nat.le_of_ble_eq_true rfl) dX7_bestRound_12 ⟨(Nat.le_of_ble_eq_true rfl), (Nat.le_of_ble_eq_true rfl)⟩ rfl (fun r w1 H locs hQ V => ?_)
    rcases hQ with ⟨j_12, rfl, rfl, f_13, f_14⟩ | ⟨rfl, rfl, f_15⟩
    · have V : gW D T A s [(o, .inr (7, [.ref n0, .ref s0, .ref im, .ref iz, .ref rw, .ref t0, .ref u0, .ref h0, .ref y0, sv])), (h0, .inr (3, [.ref h1, .int qx, .int qy, .int ql, .ref h2, .ref h3])), (h1, .inl (T 0, 10, .inl qb)), (h2, .inl (T 0, 10, .inl qp)), (h3, .inl (T 0, 12, .inl qc)), (n0, .inr (5, [.int (nI nn), .int nm, .int nl, .int no, .int nu, .ref n1, .ref n2, .ref n3, .ref n4, .ref n5, .ref n6, .ref n7, .ref n8, .ref n9, .ref n10])), (n1, .inl (T 0, 10, .inl nf1)), (n2, .inl (T 0, 10, .inl nf2)), (n3, .inl (T 0, 10, .inl nf3)), (n4, .inl (T 0, 10, .inl nf4)), (n5, .inl (T 0, 10, .inl nf5)), (n9, .inl (T 0, 10, .inl nf9))] H locs := V _ [5] rfl rfl rfl (by decide +kernel) rfl
      show W p l e _ s m args below meth c H locs _ _ _ (F0 m 15 ls [.int (nI 1)])
      refine lv_if_ne (tgt := 21) hx hb dX7_bestRound_15 (by decide) (fun _ => ?_) (fun c => absurd (show (nI 1) = 0 from c) (by decide +kernel))
      refine lv_iload_n hx hb dX7_bestRound_21 rfl (lv_at hl 1 rfl) ?_
      refine lv_iconst (v := (nI 1)) hx hb dX7_bestRound_22 (by decide +kernel) ?_
      refine lv_bipush (v := (nI 10)) hx hb dX7_bestRound_23 (by decide +kernel) ?_
      refine g_callSU (nA := 3) hC V hl.1 (c_isWithin l D T le (nI 1) (nI 10)) w_292 w_293 w_2 w_294 (by decide +kernel) rfl ⟨(Nat.le_of_ble_eq_true rfl), (Nat.le_of_ble_eq_true rfl)⟩ [] rfl rfl (Nat.le_of_ble_eq_true rfl) dX7_bestRound_25 ⟨(Nat.le_of_ble_eq_true rfl), (Nat.le_of_ble_eq_true rfl)⟩ rfl (fun r w1 H locs hQ V => ?_)
      rcases hQ with ⟨rfl, rfl, f_16, f_17⟩ | ⟨rfl, rfl, f_18⟩
      · have V : gW D T A s [(o, .inr (7, [.ref n0, .ref s0, .ref im, .ref iz, .ref rw, .ref t0, .ref u0, .ref h0, .ref y0, sv])), (h0, .inr (3, [.ref h1, .int qx, .int qy, .int ql, .ref h2, .ref h3])), (h1, .inl (T 0, 10, .inl qb)), (h2, .inl (T 0, 10, .inl qp)), (h3, .inl (T 0, 12, .inl qc)), (n0, .inr (5, [.int (nI nn), .int nm, .int nl, .int no, .int nu, .ref n1, .ref n2, .ref n3, .ref n4, .ref n5, .ref n6, .ref n7, .ref n8, .ref n9, .ref n10])), (n1, .inl (T 0, 10, .inl nf1)), (n2, .inl (T 0, 10, .inl nf2)), (n3, .inl (T 0, 10, .inl nf3)), (n4, .inl (T 0, 10, .inl nf4)), (n5, .inl (T 0, 10, .inl nf5)), (n9, .inl (T 0, 10, .inl nf9))] H locs := V _ [] rfl rfl rfl (by decide +kernel) rfl
        show W p l e _ s m args below meth c H locs _ _ _ (F0 m 28 ls [.int (nI 1)])
        obtain ⟨i, hi1, hi2, ei⟩ := g_rng (by first | decide | omega) (by first | decide | omega) f_16 f_17
        rw [ei] at hl
        have hmul : nn * i ≤ 10 * 10 := Nat.mul_le_mul h_n (by omega)
        refine lv_if_ne (tgt := 34) hx hb dX7_bestRound_28 (by decide) (fun _ => ?_) (fun c => absurd (show (nI 1) = 0 from c) (by decide +kernel))
        refine lv_aload_n hx hb dX7_bestRound_34 rfl (lv_at hl 0 rfl) ?_
        refine g_get hC V (ci := 7) uwX7 0 rfl rfl 0 (by decide) w_249 rfl rfl dX7_bestRound_35 ?_
        refine g_get hC V (ci := 5) uwX5 5 rfl rfl 0 (by decide) w_38 rfl rfl dX7_bestRound_38 ?_
        refine lv_iload_n hx hb dX7_bestRound_41 rfl (lv_at hl 1 rfl) ?_
        refine lv_imul hx hb dX7_bestRound_42 ?_
        refine g_vi (y := (nI (nn * i))) (pk_mul _ _) ?_
        refine lv_bipush (v := (nI 10)) hx hb dX7_bestRound_43 (by decide +kernel) ?_
        refine lv_icmp_le (tgt := 51) hx hb dX7_bestRound_45 (by decide) (fun c_19 => ?_) (fun c_19 => ?_)
        · skip
          have c_19 := b_le (by omega) (by omega) c_19
          refine lv_aload_n hx hb dX7_bestRound_51 rfl (lv_at hl 0 rfl) ?_
          refine g_get hC V (ci := 7) uwX7 0 rfl rfl 7 (by decide) w_256 rfl rfl dX7_bestRound_52 ?_
          refine lv_aload_n hx hb dX7_bestRound_55 rfl (lv_at hl 0 rfl) ?_
          refine g_get hC V (ci := 7) uwX7 0 rfl rfl 0 (by decide) w_249 rfl rfl dX7_bestRound_56 ?_
          refine lv_iload_n hx hb dX7_bestRound_59 rfl (lv_at hl 1 rfl) ?_
          refine g_callVU (nA := 2) hC V hl.1 (h_seekBest l D T h0 n0 i h1 qx qy ql h2 h3 qb qp qc nn nm nl no nu n1 n2 n3 n4 n5 n6 n7 n8 n9 n10 nf1 nf2 nf3 nf4 nf5 nf9 (by first | assumption | omega) ⟨by omega, by omega⟩ (by assumption)) w_656 w_657 w_658 w_6 w_659 (by decide +kernel) rfl ⟨(Nat.le_of_ble_eq_true rfl), (Nat.le_of_ble_eq_true rfl)⟩ 1 (ci := 3) rfl rfl [1, 2, 3, 4, 5, 6, 7, 8, 9, 10, 11] rfl rfl (Nat.le_of_ble_eq_true rfl) dX7_bestRound_60 ⟨(Nat.le_of_ble_eq_true rfl), (Nat.le_of_ble_eq_true rfl)⟩ rfl (fun r w1 H locs hQ V => ?_)
          obtain ⟨z_20, g1_21, g2_22, g3_23, rfl, rfl⟩ := hQ
          have V : gW D T A s [(o, .inr (7, [.ref n0, .ref s0, .ref im, .ref iz, .ref rw, .ref t0, .ref u0, .ref h0, .ref y0, sv])), (h0, .inr (3, [.ref h1, .int qx, .int qy, .int (nI i), .ref h2, .ref h3])), (h1, .inl (T 0, 10, .inl g1_21)), (h2, .inl (T 0, 10, .inl g2_22)), (h3, .inl (T 0, 12, .inl g3_23)), (n0, .inr (5, [.int (nI nn), .int nm, .int nl, .int no, .int nu, .ref n1, .ref n2, .ref n3, .ref n4, .ref n5, .ref n6, .ref n7, .ref n8, .ref n9, .ref n10])), (n1, .inl (T 0, 10, .inl nf1)), (n2, .inl (T 0, 10, .inl nf2)), (n3, .inl (T 0, 10, .inl nf3)), (n4, .inl (T 0, 10, .inl nf4)), (n5, .inl (T 0, 10, .inl nf5)), (n9, .inl (T 0, 10, .inl nf9))] H locs := V _ [1, 0, 0, 0, 0, 0, 0, 0, 0, 0, 0] rfl rfl rfl (by decide +kernel) rfl
          show W p l e _ s m args below meth c H locs _ _ _ (F0 m 63 ls [.int z_20])
          refine lv_istore_n (lv' := [(3, .int z_20), (0, .ref o), (1, .int (nI i)), (2, .int wh)]) hx hb dX7_bestRound_63 rfl hl (by decide) rfl (fun ls hl => ?_)
          refine lv_iload_n hx hb dX7_bestRound_64 rfl (lv_at hl 3 rfl) ?_
          refine lv_if_eq (tgt := 73) hx hb dX7_bestRound_65 (by decide) (fun c_24 => ?_) (fun c_24 => ?_)
          · skip
            refine lv_iload_n hx hb dX7_bestRound_73 rfl (lv_at hl 0 rfl) ?_
            refine lv_goto (tgt := 89) hx hb dX7_bestRound_74 (by decide) ?_
            exact g_iret (Qr := (q_x_bestRound T o le wh n0 s0 im iz rw t0 u0 h0 y0 sv h1 qx qy ql h2 h3 qb qp qc nn nm nl no nu n1 n2 n3 n4 n5 n6 n7 n8 n9 n10 nf1 nf2 nf3 nf4 nf5 nf9)) hC V ⟨(Nat.le_of_ble_eq_true rfl), (Nat.le_of_ble_eq_true rfl)⟩ ⟨z_20, qx, qy, (nI i), g1_21, g2_22, g3_23, rfl, rfl⟩ dX7_bestRound_89
          · skip
            refine lv_iload_n hx hb dX7_bestRound_68 rfl (lv_at hl 0 rfl) ?_
            refine lv_iconst (v := (-1)) hx hb dX7_bestRound_69 (by decide +kernel) ?_
            refine lv_icmp_ne (tgt := 77) hx hb dX7_bestRound_70 (by decide) (fun c_25 => ?_) (fun c_25 => ?_)
            · skip
              refine lv_aload_n hx hb dX7_bestRound_77 rfl (lv_at hl 1 rfl) ?_
              refine g_get hC V (ci := 7) uwX7 0 rfl rfl 7 (by decide) w_256 rfl rfl dX7_bestRound_78 ?_
              refine g_get hC V (ci := 3) uwX3 1 rfl rfl 0 (by decide) w_184 rfl rfl dX7_bestRound_81 ?_
              refine lv_iload_n hx hb dX7_bestRound_84 rfl (lv_at hl 3 rfl) ?_
              refine lv_bipush (v := (nI 10)) hx hb dX7_bestRound_85 (by decide +kernel) ?_
              refine lv_isub hx hb dX7_bestRound_87 ?_
              refine g_vi (y := nI j_12) f_13 ?_
              refine g_iald hC V 2 rfl (vp_in_nI (by omega) (by omega)) (v := (g1_21 j_12)) (congrArg _ (nI_clamp (by omega))) dX7_bestRound_88 ?_
              exact g_iret (Qr := (q_x_bestRound T o le wh n0 s0 im iz rw t0 u0 h0 y0 sv h1 qx qy ql h2 h3 qb qp qc nn nm nl no nu n1 n2 n3 n4 n5 n6 n7 n8 n9 n10 nf1 nf2 nf3 nf4 nf5 nf9)) hC V ⟨(Nat.le_of_ble_eq_true rfl), (Nat.le_of_ble_eq_true rfl)⟩ ⟨(g1_21 j_12), qx, qy, (nI i), g1_21, g2_22, g3_23, rfl, rfl⟩ dX7_bestRound_89
            · skip
              refine lv_iload_n hx hb dX7_bestRound_73 rfl (lv_at hl 0 rfl) ?_
              refine lv_goto (tgt := 89) hx hb dX7_bestRound_74 (by decide) ?_
              exact g_iret (Qr := (q_x_bestRound T o le wh n0 s0 im iz rw t0 u0 h0 y0 sv h1 qx qy ql h2 h3 qb qp qc nn nm nl no nu n1 n2 n3 n4 n5 n6 n7 n8 n9 n10 nf1 nf2 nf3 nf4 nf5 nf9)) hC V ⟨(Nat.le_of_ble_eq_true rfl), (Nat.le_of_ble_eq_true rfl)⟩ ⟨z_20, qx, qy, (nI i), g1_21, g2_22, g3_23, rfl, rfl⟩ dX7_bestRound_89
        · skip
          have c_19 := b_nle (by omega) (by omega) c_19
          refine lv_bipush (v := (-4)) hx hb dX7_bestRound_48 (by decide +kernel) ?_
          exact g_iret (Qr := (q_x_bestRound T o le wh n0 s0 im iz rw t0 u0 h0 y0 sv h1 qx qy ql h2 h3 qb qp qc nn nm nl no nu n1 n2 n3 n4 n5 n6 n7 n8 n9 n10 nf1 nf2 nf3 nf4 nf5 nf9)) hC V ⟨(Nat.le_of_ble_eq_true rfl), (Nat.le_of_ble_eq_true rfl)⟩ ⟨(-4), qx, qy, ql, qb, qp, qc, rfl, rfl⟩ dX7_bestRound_50
      · have V : gW D T A s [(o, .inr (7, [.ref n0, .ref s0, .ref im, .ref iz, .ref rw, .ref t0, .ref u0, .ref h0, .ref y0, sv])), (h0, .inr (3, [.ref h1, .int qx, .int qy, .int ql, .ref h2, .ref h3])), (h1, .inl (T 0, 10, .inl qb)), (h2, .inl (T 0, 10, .inl qp)), (h3, .inl (T 0, 12, .inl qc)), (n0, .inr (5, [.int (nI nn), .int nm, .int nl, .int no, .int nu, .ref n1, .ref n2, .ref n3, .ref n4, .ref n5, .ref n6, .ref n7, .ref n8, .ref n9, .ref n10])), (n1, .inl (T 0, 10, .inl nf1)), (n2, .inl (T 0, 10, .inl nf2)), (n3, .inl (T 0, 10, .inl nf3)), (n4, .inl (T 0, 10, .inl nf4)), (n5, .inl (T 0, 10, .inl nf5)), (n9, .inl (T 0, 10, .inl nf9))] H locs := V _ [] rfl rfl rfl (by decide +kernel) rfl
        show W p l e _ s m args below meth c H locs _ _ _ (F0 m 28 ls [.int (nI 0)])
        refine lv_if_ne (tgt := 34) hx hb dX7_bestRound_28 (by decide) (fun c => absurd (show (nI 0) = 0 by decide +kernel) c) (fun _ => ?_)
        refine lv_bipush (v := (-3)) hx hb dX7_bestRound_31 (by decide +kernel) ?_
        exact g_iret (Qr := (q_x_bestRound T o le wh n0 s0 im iz rw t0 u0 h0 y0 sv h1 qx qy ql h2 h3 qb qp qc nn nm nl no nu n1 n2 n3 n4 n5 n6 n7 n8 n9 n10 nf1 nf2 nf3 nf4 nf5 nf9)) hC V ⟨(Nat.le_of_ble_eq_true rfl), (Nat.le_of_ble_eq_true rfl)⟩ ⟨(-3), qx, qy, ql, qb, qp, qc, rfl, rfl⟩ dX7_bestRound_33
    · have V : gW D T A s [(o, .inr (7, [.ref n0, .ref s0, .ref im, .ref iz, .ref rw, .ref t0, .ref u0, .ref h0, .ref y0, sv])), (h0, .inr (3, [.ref h1, .int qx, .int qy, .int ql, .ref h2, .ref h3])), (h1, .inl (T 0, 10, .inl qb)), (h2, .inl (T 0, 10, .inl qp)), (h3, .inl (T 0, 12, .inl qc)), (n0, .inr (5, [.int (nI nn), .int nm, .int nl, .int no, .int nu, .ref n1, .ref n2, .ref n3, .ref n4, .ref n5, .ref n6, .ref n7, .ref n8, .ref n9, .ref n10])), (n1, .inl (T 0, 10, .inl nf1)), (n2, .inl (T 0, 10, .inl nf2)), (n3, .inl (T 0, 10, .inl nf3)), (n4, .inl (T 0, 10, .inl nf4)), (n5, .inl (T 0, 10, .inl nf5)), (n9, .inl (T 0, 10, .inl nf9))] H locs := V _ [5] rfl rfl rfl (by decide +kernel) rfl
      show W p l e _ s m args below meth c H locs _ _ _ (F0 m 15 ls [.int (nI 0)])
      refine lv_if_ne (tgt := 21) hx hb dX7_bestRound_15 (by decide) (fun c => absurd (show (nI 0) = 0 by decide +kernel) c) (fun _ => ?_)
      refine lv_bipush (v := (-2)) hx hb dX7_bestRound_18 (by decide +kernel) ?_
      exact g_iret (Qr := (q_x_bestRound T o le wh n0 s0 im iz rw t0 u0 h0 y0 sv h1 qx qy ql h2 h3 qb qp qc nn nm nl no nu n1 n2 n3 n4 n5 n6 n7 n8 n9 n10 nf1 nf2 nf3 nf4 nf5 nf9)) hC V ⟨(Nat.le_of_ble_eq_true rfl), (Nat.le_of_ble_eq_true rfl)⟩ ⟨(-2), qx, qy, ql, qb, qp, qc, rfl, rfl⟩ dX7_bestRound_20

def q_x_ropes (T : Nat → ClassId) (o : Nat) (wh : Int32) (n0 : Nat) (s0 : Nat) (im : Nat) (iz : Nat) (rw : Nat) (t0 : Nat) (u0 : Nat) (h0 : Nat) (y0 : Nat) (sv : Value) (ys : Int32) (y1 : Nat) (y2 : Nat) (yb : Nat → Int32) (yt : Nat → Int32) (nn : Nat) (nm : Int32) (nl : Int32) (no : Int32) (nu : Int32) (n1 : Nat) (n2 : Nat) (n3 : Nat) (n4 : Nat) (n5 : Nat) (n6 : Nat) (n7 : Nat) (n8 : Nat) (n9 : Nat) (n10 : Nat) (nf1 : Nat → Int32) (nf2 : Nat → Int32) : Option Value → va_W → Prop := fun rr ww => (∃ (z : Int32) (bs : Int32) (k1 : Nat → Int32) (k2 : Nat → Int32), rr = some (.int z) ∧ ww = [(o, .inr (7, [.ref n0, .ref s0, .ref im, .ref iz, .ref rw, .ref t0, .ref u0, .ref h0, .ref y0, sv])), (y0, .inr (0, [.int bs, .ref y1, .ref y2])), (y1, .inl (T 0, 7, .inl k1)), (y2, .inl (T 0, 7, .inl k2)), (n0, .inr (5, [.int (nI nn), .int nm, .int nl, .int no, .int nu, .ref n1, .ref n2, .ref n3, .ref n4, .ref n5, .ref n6, .ref n7, .ref n8, .ref n9, .ref n10])), (n1, .inl (T 0, 10, .inl nf1)), (n2, .inl (T 0, 10, .inl nf2))])
set_option maxHeartbeats 4000000 in
set_option maxRecDepth 100000 in
theorem x_ropes (l : Launch) (D : va_G) (T : Nat → ClassId) (o : Nat) (wh : Int32) (n0 : Nat) (s0 : Nat) (im : Nat) (iz : Nat) (rw : Nat) (t0 : Nat) (u0 : Nat) (h0 : Nat) (y0 : Nat) (sv : Value) (ys : Int32) (y1 : Nat) (y2 : Nat) (yb : Nat → Int32) (yt : Nat → Int32) (nn : Nat) (nm : Int32) (nl : Int32) (no : Int32) (nu : Int32) (n1 : Nat) (n2 : Nat) (n3 : Nat) (n4 : Nat) (n5 : Nat) (n6 : Nat) (n7 : Nat) (n8 : Nat) (n9 : Nat) (n10 : Nat) (nf1 : Nat → Int32) (nf2 : Nat → Int32) (h_n : nn ≤ 10) : Ct l yX7_ropes cX7_ropes 2 (some .int) 11 0 0 D T [.ref o, .int wh] [(o, .inr (7, [.ref n0, .ref s0, .ref im, .ref iz, .ref rw, .ref t0, .ref u0, .ref h0, .ref y0, sv])), (y0, .inr (0, [.int ys, .ref y1, .ref y2])), (y1, .inl (T 0, 7, .inl yb)), (y2, .inl (T 0, 7, .inl yt)), (n0, .inr (5, [.int (nI nn), .int nm, .int nl, .int no, .int nu, .ref n1, .ref n2, .ref n3, .ref n4, .ref n5, .ref n6, .ref n7, .ref n8, .ref n9, .ref n10])), (n1, .inl (T 0, 10, .inl nf1)), (n2, .inl (T 0, 10, .inl nf2))] (q_x_ropes T o wh n0 s0 im iz rw t0 u0 h0 y0 sv ys y1 y2 yb yt nn nm nl no nu n1 n2 n3 n4 n5 n6 n7 n8 n9 n10 nf1 nf2) := by
  refine Ct.of (cc := cX7_ropes) (maxL := 2) (ret := (some .int)) (by decide) (Nat.le_of_ble_eq_true rfl) ?_
  intro p e s m args below meth c A ls hC hnm V hl
  obtain ⟨hx, hb, hr, hml, hown, hts, hlocks⟩ := id hC
  generalize hH : s.heap = H at V ⊢
  clear hH
  have hl : lv_has ls 2 [(0, .ref o), (1, .int wh)] := hl
  generalize hlo : ([] : List Loc) = locs at V ⊢
  clear hlo
  refine lv_iload_n hx hb dX7_ropes_0 rfl (lv_at hl 1 rfl) ?_
  refine lv_if_eq (tgt := 21) hx hb dX7_ropes_1 (by decide) (fun c_1 => ?_) (fun c_1 => ?_)
  · skip
    refine lv_aload_n hx hb dX7_ropes_21 rfl (lv_at hl 0 rfl) ?_
    refine g_get hC V (ci := 7) uwX7 0 rfl rfl 0 (by decide) w_249 rfl rfl dX7_ropes_22 ?_
    refine g_get hC V (ci := 5) uwX5 4 rfl rfl 0 (by decide) w_38 rfl rfl dX7_ropes_25 ?_
    refine lv_bipush (v := (nI 7)) hx hb dX7_ropes_28 (by decide +kernel) ?_
    refine lv_icmp_le (tgt := 36) hx hb dX7_ropes_30 (by decide) (fun c_2 => ?_) (fun c_2 => ?_)
    · skip
      have c_2 := b_le (by omega) (by omega) c_2
      refine lv_aload_n hx hb dX7_ropes_36 rfl (lv_at hl 0 rfl) ?_
      refine g_get hC V (ci := 7) uwX7 0 rfl rfl 0 (by decide) w_249 rfl rfl dX7_ropes_37 ?_
      refine g_get hC V (ci := 5) uwX5 4 rfl rfl 0 (by decide) w_38 rfl rfl dX7_ropes_40 ?_
      refine lv_if_ne (tgt := 49) hx hb dX7_ropes_43 (by decide) (fun c_3 => ?_) (fun c_3 => ?_)
      · skip
        rw [show (0 : Int32) = nI 0 from rfl] at c_3
        have c_3 := b_ne (by omega) (by omega) c_3
        refine lv_aload_n hx hb dX7_ropes_49 rfl (lv_at hl 0 rfl) ?_
        refine g_get hC V (ci := 7) uwX7 0 rfl rfl 8 (by decide) w_257 rfl rfl dX7_ropes_50 ?_
        refine lv_aload_n hx hb dX7_ropes_53 rfl (lv_at hl 0 rfl) ?_
        refine g_get hC V (ci := 7) uwX7 0 rfl rfl 0 (by decide) w_249 rfl rfl dX7_ropes_54 ?_
        refine g_callVU (nA := 1) hC V hl.1 (y_seekBest l D T y0 n0 ys y1 y2 yb yt nn nm nl no nu n1 n2 n3 n4 n5 n6 n7 n8 n9 n10 nf1 nf2 (by first | assumption | omega)) w_799 w_800 w_801 w_7 w_802 (by decide +kernel) rfl ⟨(Nat.le_of_ble_eq_true rfl), (Nat.le_of_ble_eq_true rfl)⟩ 1 (ci := 0) rfl rfl [1, 2, 3, 4, 5, 6] rfl rfl (Nat.le_of_ble_eq_true rfl) dX7_ropes_57 ⟨(Nat.le_of_ble_eq_true rfl), (Nat.le_of_ble_eq_true rfl)⟩ rfl (fun r w1 H locs hQ V => ?_)
        obtain ⟨bs_4, g1_5, g2_6, rfl, rfl, f_7⟩ := hQ
        have V : gW D T A s [(o, .inr (7, [.ref n0, .ref s0, .ref im, .ref iz, .ref rw, .ref t0, .ref u0, .ref h0, .ref y0, sv])), (y0, .inr (0, [.int bs_4, .ref y1, .ref y2])), (y1, .inl (T 0, 7, .inl g1_5)), (y2, .inl (T 0, 7, .inl g2_6)), (n0, .inr (5, [.int (nI nn), .int nm, .int nl, .int no, .int nu, .ref n1, .ref n2, .ref n3, .ref n4, .ref n5, .ref n6, .ref n7, .ref n8, .ref n9, .ref n10])), (n1, .inl (T 0, 10, .inl nf1)), (n2, .inl (T 0, 10, .inl nf2))] H locs := V _ [1, 0, 0, 0, 0, 0] rfl rfl rfl (by decide +kernel) rfl
        show W p l e _ s m args below meth c H locs _ _ _ (F0 m 60 ls [])
        refine lv_iload_n hx hb dX7_ropes_60 rfl (lv_at hl 1 rfl) ?_
        refine lv_if_ne (tgt := 74) hx hb dX7_ropes_61 (by decide) (fun c_8 => ?_) (fun c_8 => ?_)
        · skip
          refine lv_aload_n hx hb dX7_ropes_74 rfl (lv_at hl 0 rfl) ?_
          refine g_get hC V (ci := 7) uwX7 0 rfl rfl 8 (by decide) w_257 rfl rfl dX7_ropes_75 ?_
          refine g_get hC V (ci := 0) uwX0 1 rfl rfl 1 (by decide) w_214 rfl rfl dX7_ropes_78 ?_
          refine lv_iload_n hx hb dX7_ropes_81 rfl (lv_at hl 1 rfl) ?_
          refine lv_bipush (v := (nI 10)) hx hb dX7_ropes_82 (by decide +kernel) ?_
          refine lv_isub hx hb dX7_ropes_84 ?_
          exact absurd (by assumption) ‹¬ wh = 0›
        · skip
          refine lv_aload_n hx hb dX7_ropes_64 rfl (lv_at hl 0 rfl) ?_
          refine g_get hC V (ci := 7) uwX7 0 rfl rfl 8 (by decide) w_257 rfl rfl dX7_ropes_65 ?_
          refine g_get hC V (ci := 0) uwX0 1 rfl rfl 0 (by decide) w_212 rfl rfl dX7_ropes_68 ?_
          refine lv_goto (tgt := 86) hx hb dX7_ropes_71 (by decide) ?_
          exact g_iret (Qr := (q_x_ropes T o wh n0 s0 im iz rw t0 u0 h0 y0 sv ys y1 y2 yb yt nn nm nl no nu n1 n2 n3 n4 n5 n6 n7 n8 n9 n10 nf1 nf2)) hC V ⟨(Nat.le_of_ble_eq_true rfl), (Nat.le_of_ble_eq_true rfl)⟩ ⟨bs_4, bs_4, g1_5, g2_6, rfl, rfl⟩ dX7_ropes_86
      · skip
        rw [show (0 : Int32) = nI 0 from rfl] at c_3
        have c_3 := b_eq (by omega) (by omega) c_3
        refine lv_bipush (v := (-5)) hx hb dX7_ropes_46 (by decide +kernel) ?_
        exact g_iret (Qr := (q_x_ropes T o wh n0 s0 im iz rw t0 u0 h0 y0 sv ys y1 y2 yb yt nn nm nl no nu n1 n2 n3 n4 n5 n6 n7 n8 n9 n10 nf1 nf2)) hC V ⟨(Nat.le_of_ble_eq_true rfl), (Nat.le_of_ble_eq_true rfl)⟩ ⟨(-5), ys, yb, yt, rfl, rfl⟩ dX7_ropes_48
    · skip
      have c_2 := b_nle (by omega) (by omega) c_2
      refine lv_bipush (v := (-4)) hx hb dX7_ropes_33 (by decide +kernel) ?_
      exact g_iret (Qr := (q_x_ropes T o wh n0 s0 im iz rw t0 u0 h0 y0 sv ys y1 y2 yb yt nn nm nl no nu n1 n2 n3 n4 n5 n6 n7 n8 n9 n10 nf1 nf2)) hC V ⟨(Nat.le_of_ble_eq_true rfl), (Nat.le_of_ble_eq_true rfl)⟩ ⟨(-4), ys, yb, yt, rfl, rfl⟩ dX7_ropes_35
  · skip
    refine lv_aload_n hx hb dX7_ropes_4 rfl (lv_at hl 0 rfl) ?_
    refine g_get hC V (ci := 7) uwX7 0 rfl rfl 0 (by decide) w_249 rfl rfl dX7_ropes_5 ?_
    refine lv_iload_n hx hb dX7_ropes_8 rfl (lv_at hl 1 rfl) ?_
    refine lv_bipush (v := (nI 10)) hx hb dX7_ropes_9 (by decide +kernel) ?_
    refine lv_isub hx hb dX7_ropes_11 ?_
    refine g_callVU (nA := 1) hC V hl.1 (s_isSmith l D T n0 (wh - (nI 10)) nn nm nl no nu n1 n2 n3 n4 n5 n6 n7 n8 n9 n10 (by first | assumption | omega)) w_425 w_426 w_427 w_3 w_428 (by decide +kernel) rfl ⟨(Nat.le_of_ble_eq_true rfl), (Nat.le_of_ble_eq_true rfl)⟩ 4 (ci := 5) rfl rfl [4] rfl rfl (Nat.le_of_ble_eq_true rfl) dX7_ropes_12 ⟨(Nat.le_of_ble_eq_true rfl), (Nat.le_of_ble_eq_true rfl)⟩ rfl (fun r w1 H locs hQ V => ?_)
    rcases hQ with ⟨j_9, rfl, rfl, f_10, f_11⟩ | ⟨rfl, rfl, f_12⟩
    · have V : gW D T A s [(o, .inr (7, [.ref n0, .ref s0, .ref im, .ref iz, .ref rw, .ref t0, .ref u0, .ref h0, .ref y0, sv])), (y0, .inr (0, [.int ys, .ref y1, .ref y2])), (y1, .inl (T 0, 7, .inl yb)), (y2, .inl (T 0, 7, .inl yt)), (n0, .inr (5, [.int (nI nn), .int nm, .int nl, .int no, .int nu, .ref n1, .ref n2, .ref n3, .ref n4, .ref n5, .ref n6, .ref n7, .ref n8, .ref n9, .ref n10])), (n1, .inl (T 0, 10, .inl nf1)), (n2, .inl (T 0, 10, .inl nf2))] H locs := V _ [4] rfl rfl rfl (by decide +kernel) rfl
      show W p l e _ s m args below meth c H locs _ _ _ (F0 m 15 ls [.int (nI 1)])
      refine lv_if_ne (tgt := 21) hx hb dX7_ropes_15 (by decide) (fun _ => ?_) (fun c => absurd (show (nI 1) = 0 from c) (by decide +kernel))
      refine lv_aload_n hx hb dX7_ropes_21 rfl (lv_at hl 0 rfl) ?_
      refine g_get hC V (ci := 7) uwX7 0 rfl rfl 0 (by decide) w_249 rfl rfl dX7_ropes_22 ?_
      refine g_get hC V (ci := 5) uwX5 4 rfl rfl 0 (by decide) w_38 rfl rfl dX7_ropes_25 ?_
      refine lv_bipush (v := (nI 7)) hx hb dX7_ropes_28 (by decide +kernel) ?_
      refine lv_icmp_le (tgt := 36) hx hb dX7_ropes_30 (by decide) (fun c_13 => ?_) (fun c_13 => ?_)
      · skip
        have c_13 := b_le (by omega) (by omega) c_13
        refine lv_aload_n hx hb dX7_ropes_36 rfl (lv_at hl 0 rfl) ?_
        refine g_get hC V (ci := 7) uwX7 0 rfl rfl 0 (by decide) w_249 rfl rfl dX7_ropes_37 ?_
        refine g_get hC V (ci := 5) uwX5 4 rfl rfl 0 (by decide) w_38 rfl rfl dX7_ropes_40 ?_
        refine lv_if_ne (tgt := 49) hx hb dX7_ropes_43 (by decide) (fun c_14 => ?_) (fun c_14 => ?_)
        · skip
          rw [show (0 : Int32) = nI 0 from rfl] at c_14
          have c_14 := b_ne (by omega) (by omega) c_14
          refine lv_aload_n hx hb dX7_ropes_49 rfl (lv_at hl 0 rfl) ?_
          refine g_get hC V (ci := 7) uwX7 0 rfl rfl 8 (by decide) w_257 rfl rfl dX7_ropes_50 ?_
          refine lv_aload_n hx hb dX7_ropes_53 rfl (lv_at hl 0 rfl) ?_
          refine g_get hC V (ci := 7) uwX7 0 rfl rfl 0 (by decide) w_249 rfl rfl dX7_ropes_54 ?_
          refine g_callVU (nA := 1) hC V hl.1 (y_seekBest l D T y0 n0 ys y1 y2 yb yt nn nm nl no nu n1 n2 n3 n4 n5 n6 n7 n8 n9 n10 nf1 nf2 (by first | assumption | omega)) w_799 w_800 w_801 w_7 w_802 (by decide +kernel) rfl ⟨(Nat.le_of_ble_eq_true rfl), (Nat.le_of_ble_eq_true rfl)⟩ 1 (ci := 0) rfl rfl [1, 2, 3, 4, 5, 6] rfl rfl (Nat.le_of_ble_eq_true rfl) dX7_ropes_57 ⟨(Nat.le_of_ble_eq_true rfl), (Nat.le_of_ble_eq_true rfl)⟩ rfl (fun r w1 H locs hQ V => ?_)
          obtain ⟨bs_15, g1_16, g2_17, rfl, rfl, f_18⟩ := hQ
          have V : gW D T A s [(o, .inr (7, [.ref n0, .ref s0, .ref im, .ref iz, .ref rw, .ref t0, .ref u0, .ref h0, .ref y0, sv])), (y0, .inr (0, [.int bs_15, .ref y1, .ref y2])), (y1, .inl (T 0, 7, .inl g1_16)), (y2, .inl (T 0, 7, .inl g2_17)), (n0, .inr (5, [.int (nI nn), .int nm, .int nl, .int no, .int nu, .ref n1, .ref n2, .ref n3, .ref n4, .ref n5, .ref n6, .ref n7, .ref n8, .ref n9, .ref n10])), (n1, .inl (T 0, 10, .inl nf1)), (n2, .inl (T 0, 10, .inl nf2))] H locs := V _ [1, 0, 0, 0, 0, 0] rfl rfl rfl (by decide +kernel) rfl
          show W p l e _ s m args below meth c H locs _ _ _ (F0 m 60 ls [])
          refine lv_iload_n hx hb dX7_ropes_60 rfl (lv_at hl 1 rfl) ?_
          refine lv_if_ne (tgt := 74) hx hb dX7_ropes_61 (by decide) (fun c_19 => ?_) (fun c_19 => ?_)
          · skip
            refine lv_aload_n hx hb dX7_ropes_74 rfl (lv_at hl 0 rfl) ?_
            refine g_get hC V (ci := 7) uwX7 0 rfl rfl 8 (by decide) w_257 rfl rfl dX7_ropes_75 ?_
            refine g_get hC V (ci := 0) uwX0 1 rfl rfl 1 (by decide) w_214 rfl rfl dX7_ropes_78 ?_
            refine lv_iload_n hx hb dX7_ropes_81 rfl (lv_at hl 1 rfl) ?_
            refine lv_bipush (v := (nI 10)) hx hb dX7_ropes_82 (by decide +kernel) ?_
            refine lv_isub hx hb dX7_ropes_84 ?_
            refine g_vi (y := nI j_9) f_10 ?_
            refine g_iald hC V 2 rfl (vp_in_nI (by omega) (by omega)) (v := (g1_16 j_9)) (congrArg _ (nI_clamp (by omega))) dX7_ropes_85 ?_
            exact g_iret (Qr := (q_x_ropes T o wh n0 s0 im iz rw t0 u0 h0 y0 sv ys y1 y2 yb yt nn nm nl no nu n1 n2 n3 n4 n5 n6 n7 n8 n9 n10 nf1 nf2)) hC V ⟨(Nat.le_of_ble_eq_true rfl), (Nat.le_of_ble_eq_true rfl)⟩ ⟨(g1_16 j_9), bs_15, g1_16, g2_17, rfl, rfl⟩ dX7_ropes_86
          · skip
            refine lv_aload_n hx hb dX7_ropes_64 rfl (lv_at hl 0 rfl) ?_
            refine g_get hC V (ci := 7) uwX7 0 rfl rfl 8 (by decide) w_257 rfl rfl dX7_ropes_65 ?_
            refine g_get hC V (ci := 0) uwX0 1 rfl rfl 0 (by decide) w_212 rfl rfl dX7_ropes_68 ?_
            refine lv_goto (tgt := 86) hx hb dX7_ropes_71 (by decide) ?_
            exact g_iret (Qr := (q_x_ropes T o wh n0 s0 im iz rw t0 u0 h0 y0 sv ys y1 y2 yb yt nn nm nl no nu n1 n2 n3 n4 n5 n6 n7 n8 n9 n10 nf1 nf2)) hC V ⟨(Nat.le_of_ble_eq_true rfl), (Nat.le_of_ble_eq_true rfl)⟩ ⟨bs_15, bs_15, g1_16, g2_17, rfl, rfl⟩ dX7_ropes_86
        · skip
          rw [show (0 : Int32) = nI 0 from rfl] at c_14
          have c_14 := b_eq (by omega) (by omega) c_14
          refine lv_bipush (v := (-5)) hx hb dX7_ropes_46 (by decide +kernel) ?_
          exact g_iret (Qr := (q_x_ropes T o wh n0 s0 im iz rw t0 u0 h0 y0 sv ys y1 y2 yb yt nn nm nl no nu n1 n2 n3 n4 n5 n6 n7 n8 n9 n10 nf1 nf2)) hC V ⟨(Nat.le_of_ble_eq_true rfl), (Nat.le_of_ble_eq_true rfl)⟩ ⟨(-5), ys, yb, yt, rfl, rfl⟩ dX7_ropes_48
      · skip
        have c_13 := b_nle (by omega) (by omega) c_13
        refine lv_bipush (v := (-4)) hx hb dX7_ropes_33 (by decide +kernel) ?_
        exact g_iret (Qr := (q_x_ropes T o wh n0 s0 im iz rw t0 u0 h0 y0 sv ys y1 y2 yb yt nn nm nl no nu n1 n2 n3 n4 n5 n6 n7 n8 n9 n10 nf1 nf2)) hC V ⟨(Nat.le_of_ble_eq_true rfl), (Nat.le_of_ble_eq_true rfl)⟩ ⟨(-4), ys, yb, yt, rfl, rfl⟩ dX7_ropes_35
    · have V : gW D T A s [(o, .inr (7, [.ref n0, .ref s0, .ref im, .ref iz, .ref rw, .ref t0, .ref u0, .ref h0, .ref y0, sv])), (y0, .inr (0, [.int ys, .ref y1, .ref y2])), (y1, .inl (T 0, 7, .inl yb)), (y2, .inl (T 0, 7, .inl yt)), (n0, .inr (5, [.int (nI nn), .int nm, .int nl, .int no, .int nu, .ref n1, .ref n2, .ref n3, .ref n4, .ref n5, .ref n6, .ref n7, .ref n8, .ref n9, .ref n10])), (n1, .inl (T 0, 10, .inl nf1)), (n2, .inl (T 0, 10, .inl nf2))] H locs := V _ [4] rfl rfl rfl (by decide +kernel) rfl
      show W p l e _ s m args below meth c H locs _ _ _ (F0 m 15 ls [.int (nI 0)])
      refine lv_if_ne (tgt := 21) hx hb dX7_ropes_15 (by decide) (fun c => absurd (show (nI 0) = 0 by decide +kernel) c) (fun _ => ?_)
      refine lv_bipush (v := (-2)) hx hb dX7_ropes_18 (by decide +kernel) ?_
      exact g_iret (Qr := (q_x_ropes T o wh n0 s0 im iz rw t0 u0 h0 y0 sv ys y1 y2 yb yt nn nm nl no nu n1 n2 n3 n4 n5 n6 n7 n8 n9 n10 nf1 nf2)) hC V ⟨(Nat.le_of_ble_eq_true rfl), (Nat.le_of_ble_eq_true rfl)⟩ ⟨(-2), ys, yb, yt, rfl, rfl⟩ dX7_ropes_20
