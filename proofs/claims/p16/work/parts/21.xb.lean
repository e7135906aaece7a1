/-- why a row is refused: -2 there is no such row, -6 it isn't there -/
def rowWhy (row a b c d : Int32) : Int32 := if row < 0 ∨ nI 4 ≤ row then -2 else if row = nI 0 ∧ a = 0 ∨ row = nI 1 ∧ b = 0 ∨ row = nI 2 ∧ c = 0 ∨ row = nI 3 ∧ d = 0 then -6 else 0
theorem rw_out {row a b c d : Int32} (h : row < 0 ∨ nI 4 ≤ row) : -2 = rowWhy row a b c d := by simp [rowWhy, h]
theorem rw_in {row : Int32} {k : Nat} (h : row = nI k) (hk : k < 4) : ¬ (row < 0 ∨ nI 4 ≤ row) := by
  subst h
  rintro (h | h)
  · exact absurd h (nI_pos (by omega))
  · exact absurd (b_le (by decide) (by omega) h) (by omega)
theorem rw_0 {row a b c d : Int32} (h : row = nI 0) (h0 : a = 0) : -6 = rowWhy row a b c d := by rw [rowWhy, if_neg (rw_in h (by decide)), if_pos (Or.inl ⟨h, h0⟩)]
theorem rw_1 {row a b c d : Int32} (h : row = nI 1) (h0 : b = 0) : -6 = rowWhy row a b c d := by rw [rowWhy, if_neg (rw_in h (by decide)), if_pos (Or.inr (Or.inl ⟨h, h0⟩))]
theorem rw_2 {row a b c d : Int32} (h : row = nI 2) (h0 : c = 0) : -6 = rowWhy row a b c d := by rw [rowWhy, if_neg (rw_in h (by decide)), if_pos (Or.inr (Or.inr (Or.inl ⟨h, h0⟩)))]
theorem rw_3 {row a b c d : Int32} (h : row = nI 3) (h0 : d = 0) : -6 = rowWhy row a b c d := by rw [rowWhy, if_neg (rw_in h (by decide)), if_pos (Or.inr (Or.inr (Or.inr ⟨h, h0⟩)))]
theorem rw_ne {row : Int32} {a b : Nat} (h : row = nI a) (h2 : row = nI b) (h3 : ¬ nI a = nI b) : False := h3 (h.symm.trans h2)

def q_x_refusedRow (T : Nat → ClassId) (o : Nat) (row : Int32) (n0 : Nat) (s0 : Nat) (im : Nat) (iz : Nat) (rw : Nat) (t0 : Nat) (u0 : Nat) (h0 : Nat) (y0 : Nat) (sv : Value) (ra0 : Nat) (rb0 : Nat) (rc0 : Nat) (rd0 : Nat) (rah : Int32) (raz : Nat) (ra1 : Nat) (ras : Nat) (raf : Nat → Int64) (rbh : Int32) (rbz : Nat) (rb1 : Nat) (rbs : Nat) (rbf : Nat → Int64) (rch : Int32) (rcz : Nat) (rc1 : Nat) (rcs : Nat) (rcf : Nat → Int64) (rdh : Int32) (rdz : Nat) (rd1 : Nat) (rds : Nat) (rdf : Nat → Int64) : Option Value → va_W → Prop := fun rr ww => (rr = some (.int (nI 0)) ∧ ww = [(o, .inr (7, [.ref n0, .ref s0, .ref im, .ref iz, .ref rw, .ref t0, .ref u0, .ref h0, .ref y0, sv])), (rw, .inl (T 5, 4, .inr (.inr (.inr (.inr (va_up (va_up (va_up (va_up (fun _ => none) 0 (some ra0)) 1 (some rb0)) 2 (some rc0)) 3 (some rd0))))))), (ra0, .inr (1, [.int rah, .int (nI raz), .ref ra1, .int (nI ras)])), (ra1, .inl (T 1, 40, .inr (.inl raf))), (rb0, .inr (1, [.int rbh, .int (nI rbz), .ref rb1, .int (nI rbs)])), (rb1, .inl (T 1, 40, .inr (.inl rbf))), (rc0, .inr (1, [.int rch, .int (nI rcz), .ref rc1, .int (nI rcs)])), (rc1, .inl (T 1, 40, .inr (.inl rcf))), (rd0, .inr (1, [.int rdh, .int (nI rdz), .ref rd1, .int (nI rds)])), (rd1, .inl (T 1, 40, .inr (.inl rdf)))] ∧ ¬ row < 0 ∧ ¬ nI 4 ≤ row ∧ (row = nI 0 → ¬ rah = 0) ∧ (row = nI 1 → ¬ rbh = 0) ∧ (row = nI 2 → ¬ rch = 0) ∧ (row = nI 3 → ¬ rdh = 0)) ∨ (∃ (z : Int32), rr = some (.int z) ∧ ww = [(o, .inr (7, [.ref n0, .ref s0, .ref im, .ref iz, .ref rw, .ref t0, .ref u0, .ref h0, .ref y0, sv])), (rw, .inl (T 5, 4, .inr (.inr (.inr (.inr (va_up (va_up (va_up (va_up (fun _ => none) 0 (some ra0)) 1 (some rb0)) 2 (some rc0)) 3 (some rd0))))))), (ra0, .inr (1, [.int rah, .int (nI raz), .ref ra1, .int (nI ras)])), (ra1, .inl (T 1, 40, .inr (.inl raf))), (rb0, .inr (1, [.int rbh, .int (nI rbz), .ref rb1, .int (nI rbs)])), (rb1, .inl (T 1, 40, .inr (.inl rbf))), (rc0, .inr (1, [.int rch, .int (nI rcz), .ref rc1, .int (nI rcs)])), (rc1, .inl (T 1, 40, .inr (.inl rcf))), (rd0, .inr (1, [.int rdh, .int (nI rdz), .ref rd1, .int (nI rds)])), (rd1, .inl (T 1, 40, .inr (.inl rdf)))] ∧ ¬ z = 0 ∧ z = rowWhy row rah rbh rch rdh)
set_option maxHeartbeats 4000000 in
set_option maxRecDepth 100000 in
theorem x_refusedRow (l : Launch) (D : va_G) (T : Nat → ClassId) (o : Nat) (row : Int32) (n0 : Nat) (s0 : Nat) (im : Nat) (iz : Nat) (rw : Nat) (t0 : Nat) (u0 : Nat) (h0 : Nat) (y0 : Nat) (sv : Value) (ra0 : Nat) (rb0 : Nat) (rc0 : Nat) (rd0 : Nat) (rah : Int32) (raz : Nat) (ra1 : Nat) (ras : Nat) (raf : Nat → Int64) (rbh : Int32) (rbz : Nat) (rb1 : Nat) (rbs : Nat) (rbf : Nat → Int64) (rch : Int32) (rcz : Nat) (rc1 : Nat) (rcs : Nat) (rcf : Nat → Int64) (rdh : Int32) (rdz : Nat) (rd1 : Nat) (rds : Nat) (rdf : Nat → Int64) : Ct l yX7_refusedRow cX7_refusedRow 2 (some .int) 1 0 0 D T [.ref o, .int row] [(o, .inr (7, [.ref n0, .ref s0, .ref im, .ref iz, .ref rw, .ref t0, .ref u0, .ref h0, .ref y0, sv])), (rw, .inl (T 5, 4, .inr (.inr (.inr (.inr (va_up (va_up (va_up (va_up (fun _ => none) 0 (some ra0)) 1 (some rb0)) 2 (some rc0)) 3 (some rd0))))))), (ra0, .inr (1, [.int rah, .int (nI raz), .ref ra1, .int (nI ras)])), (ra1, .inl (T 1, 40, .inr (.inl raf))), (rb0, .inr (1, [.int rbh, .int (nI rbz), .ref rb1, .int (nI rbs)])), (rb1, .inl (T 1, 40, .inr (.inl rbf))), (rc0, .inr (1, [.int rch, .int (nI rcz), .ref rc1, .int (nI rcs)])), (rc1, .inl (T 1, 40, .inr (.inl rcf))), (rd0, .inr (1, [.int rdh, .int (nI rdz), .ref rd1, .int (nI rds)])), (rd1, .inl (T 1, 40, .inr (.inl rdf)))] (q_x_refusedRow T o row n0 s0 im iz rw t0 u0 h0 y0 sv ra0 rb0 rc0 rd0 rah raz ra1 ras raf rbh rbz rb1 rbs rbf rch rcz rc1 rcs rcf rdh rdz rd1 rds rdf) := by
  refine Ct.of (cc := cX7_refusedRow) (maxL := 2) (ret := (some .int)) (by decide) (Nat.le_of_ble_eq_true rfl) ?_
  intro p e s m args below meth c A ls hC hnm V hl
  obtain ⟨hx, hb, hr, hml, hown, hts, hlocks⟩ := id hC
  generalize hH : s.heap = H at V ⊢
  clear hH
  have hl : lv_has ls 2 [(0, .ref o), (1, .int row)] := hl
  generalize hlo : ([] : List Loc) = locs at V ⊢
  clear hlo
  refine lv_iload_n hx hb dX7_refusedRow_0 rfl (lv_at hl 1 rfl) ?_
  refine g_callSU (nA := 1) hC V hl.1 (c_isRow l D T row) w_501 w_502 w_2 w_503 (by decide +kernel) rfl ⟨(Nat.le_of_ble_eq_true rfl), (Nat.le_of_ble_eq_true rfl)⟩ [] rfl rfl (Nat.le_of_ble_eq_true rfl) dX7_refusedRow_1 ⟨(Nat.le_of_ble_eq_true rfl), (Nat.le_of_ble_eq_true rfl)⟩ rfl (fun r w1 H locs hQ V => ?_)
  rcases hQ with ⟨rfl, rfl, f_1, f_2⟩ | ⟨rfl, rfl, f_3⟩
  · have V : gW D T A s [(o, .inr (7, [.ref n0, .ref s0, .ref im, .ref iz, .ref rw, .ref t0, .ref u0, .ref h0, .ref y0, sv])), (rw, .inl (T 5, 4, .inr (.inr (.inr (.inr (va_up (va_up (va_up (va_up (fun _ => none) 0 (some ra0)) 1 (some rb0)) 2 (some rc0)) 3 (some rd0))))))), (ra0, .inr (1, [.int rah, .int (nI raz), .ref ra1, .int (nI ras)])), (ra1, .inl (T 1, 40, .inr (.inl raf))), (rb0, .inr (1, [.int rbh, .int (nI rbz), .ref rb1, .int (nI rbs)])), (rb1, .inl (T 1, 40, .inr (.inl rbf))), (rc0, .inr (1, [.int rch, .int (nI rcz), .ref rc1, .int (nI rcs)])), (rc1, .inl (T 1, 40, .inr (.inl rcf))), (rd0, .inr (1, [.int rdh, .int (nI rdz), .ref rd1, .int (nI rds)])), (rd1, .inl (T 1, 40, .inr (.inl rdf)))] H locs := V _ [] rfl rfl rfl (by decide +kernel) rfl
    show W p l e _ s m args below meth c H locs _ _ _ (F0 m 4 ls [.int (nI 1)])
    obtain ⟨j_4, hj_4, ej_4⟩ := g_idx (n := 4) (by decide) f_1 f_2
    rw [ej_4] at hl
    have hj_4 : j_4 = 0 ∨ j_4 = 1 ∨ j_4 = 2 ∨ j_4 = 3 := by omega
    rcases hj_4 with rfl | rfl | rfl | rfl
    · skip
      refine lv_if_ne (tgt := 10) hx hb dX7_refusedRow_4 (by decide) (fun _ => ?_) (fun c => absurd (show (nI 1) = 0 from c) (by decide +kernel))
      refine lv_aload_n hx hb dX7_refusedRow_10 rfl (lv_at hl 0 rfl) ?_
      refine g_get hC V (ci := 7) uwX7 0 rfl rfl 4 (by decide) w_253 rfl rfl dX7_refusedRow_11 ?_
      refine lv_iload_n hx hb dX7_refusedRow_14 rfl (lv_at hl 1 rfl) ?_
      refine g_aald hC V 1 5 rfl rfl (vp_in_nI (by decide) (by decide)) (v := .ref ra0) (by rw [nI_clamp (by decide)]; rfl) dX7_refusedRow_15 ?_
      refine g_get hC V (ci := 1) uwX1 2 rfl rfl 0 (by decide) w_229 rfl rfl dX7_refusedRow_16 ?_
      refine lv_if_eq (tgt := 26) hx hb dX7_refusedRow_19 (by decide) (fun c_5 => ?_) (fun c_5 => ?_)
      · skip
        refine lv_bipush (v := (-6)) hx hb dX7_refusedRow_26 (by decide +kernel) ?_
        exact g_iret (Qr := (q_x_refusedRow T o row n0 s0 im iz rw t0 u0 h0 y0 sv ra0 rb0 rc0 rd0 rah raz ra1 ras raf rbh rbz rb1 rbs rbf rch rcz rc1 rcs rcf rdh rdz rd1 rds rdf)) hC V ⟨(Nat.le_of_ble_eq_true rfl), (Nat.le_of_ble_eq_true rfl)⟩ (.inr ⟨(-6), rfl, rfl, (by decide +kernel), (by first | exact rw_0 (by assumption) (by assumption) | exact rw_1 (by assumption) (by assumption) | exact rw_2 (by assumption) (by assumption) | exact rw_3 (by assumption) (by assumption))⟩) dX7_refusedRow_28
      · skip
        refine lv_iconst (v := (nI 0)) hx hb dX7_refusedRow_22 (by decide +kernel) ?_
        refine lv_goto (tgt := 28) hx hb dX7_refusedRow_23 (by decide) ?_
        exact g_iret (Qr := (q_x_refusedRow T o row n0 s0 im iz rw t0 u0 h0 y0 sv ra0 rb0 rc0 rd0 rah raz ra1 ras raf rbh rbz rb1 rbs rbf rch rcz rc1 rcs rcf rdh rdz rd1 rds rdf)) hC V ⟨(Nat.le_of_ble_eq_true rfl), (Nat.le_of_ble_eq_true rfl)⟩ (.inl ⟨rfl, rfl, (by assumption), (by assumption), (fun h => by first | assumption | (exfalso; exact rw_ne h ej_4 (by decide +kernel))), (fun h => by first | assumption | (exfalso; exact rw_ne h ej_4 (by decide +kernel))), (fun h => by first | assumption | (exfalso; exact rw_ne h ej_4 (by decide +kernel))), (fun h => by first | assumption | (exfalso; exact rw_ne h ej_4 (by decide +kernel)))⟩) dX7_refusedRow_28
    · skip
      refine lv_if_ne (tgt := 10) hx hb dX7_refusedRow_4 (by decide) (fun _ => ?_) (fun c => absurd (show (nI 1) = 0 from c) (by decide +kernel))
      refine lv_aload_n hx hb dX7_refusedRow_10 rfl (lv_at hl 0 rfl) ?_
      refine g_get hC V (ci := 7) uwX7 0 rfl rfl 4 (by decide) w_253 rfl rfl dX7_refusedRow_11 ?_
      refine lv_iload_n hx hb dX7_refusedRow_14 rfl (lv_at hl 1 rfl) ?_
      refine g_aald hC V 1 5 rfl rfl (vp_in_nI (by decide) (by decide)) (v := .ref rb0) (by rw [nI_clamp (by decide)]; rfl) dX7_refusedRow_15 ?_
      refine g_get hC V (ci := 1) uwX1 4 rfl rfl 0 (by decide) w_229 rfl rfl dX7_refusedRow_16 ?_
      refine lv_if_eq (tgt := 26) hx hb dX7_refusedRow_19 (by decide) (fun c_6 => ?_) (fun c_6 => ?_)
      · skip
        refine lv_bipush (v := (-6)) hx hb dX7_refusedRow_26 (by decide +kernel) ?_
        exact g_iret (Qr := (q_x_refusedRow T o row n0 s0 im iz rw t0 u0 h0 y0 sv ra0 rb0 rc0 rd0 rah raz ra1 ras raf rbh rbz rb1 rbs rbf rch rcz rc1 rcs rcf rdh rdz rd1 rds rdf)) hC V ⟨(Nat.le_of_ble_eq_true rfl), (Nat.le_of_ble_eq_true rfl)⟩ (.inr ⟨(-6), rfl, rfl, (by decide +kernel), (by first | exact rw_0 (by assumption) (by assumption) | exact rw_1 (by assumption) (by assumption) | exact rw_2 (by assumption) (by assumption) | exact rw_3 (by assumption) (by assumption))⟩) dX7_refusedRow_28
      · skip
        refine lv_iconst (v := (nI 0)) hx hb dX7_refusedRow_22 (by decide +kernel) ?_
        refine lv_goto (tgt := 28) hx hb dX7_refusedRow_23 (by decide) ?_
        exact g_iret (Qr := (q_x_refusedRow T o row n0 s0 im iz rw t0 u0 h0 y0 sv ra0 rb0 rc0 rd0 rah raz ra1 ras raf rbh rbz rb1 rbs rbf rch rcz rc1 rcs rcf rdh rdz rd1 rds rdf)) hC V ⟨(Nat.le_of_ble_eq_true rfl), (Nat.le_of_ble_eq_true rfl)⟩ (.inl ⟨rfl, rfl, (by assumption), (by assumption), (fun h => by first | assumption | (exfalso; exact rw_ne h ej_4 (by decide +kernel))), (fun h => by first | assumption | (exfalso; exact rw_ne h ej_4 (by decide +kernel))), (fun h => by first | assumption | (exfalso; exact rw_ne h ej_4 (by decide +kernel))), (fun h => by first | assumption | (exfalso; exact rw_ne h ej_4 (by decide +kernel)))⟩) dX7_refusedRow_28
    · skip
      refine lv_if_ne (tgt := 10) hx hb dX7_refusedRow_4 (by decide) (fun _ => ?_) (fun c => absurd (show (nI 1) = 0 from c) (by decide +kernel))
      refine lv_aload_n hx hb dX7_refusedRow_10 rfl (lv_at hl 0 rfl) ?_
      refine g_get hC V (ci := 7) uwX7 0 rfl rfl 4 (by decide) w_253 rfl rfl dX7_refusedRow_11 ?_
      refine lv_iload_n hx hb dX7_refusedRow_14 rfl (lv_at hl 1 rfl) ?_
      refine g_aald hC V 1 5 rfl rfl (vp_in_nI (by decide) (by decide)) (v := .ref rc0) (by rw [nI_clamp (by decide)]; rfl) dX7_refusedRow_15 ?_
      refine g_get hC V (ci := 1) uwX1 6 rfl rfl 0 (by decide) w_229 rfl rfl dX7_refusedRow_16 ?_
      refine lv_if_eq (tgt := 26) hx hb dX7_refusedRow_19 (by decide) (fun c_7 => ?_) (fun c_7 => ?_)
      · skip
        refine lv_bipush (v := (-6)) hx hb dX7_refusedRow_26 (by decide +kernel) ?_
        exact g_iret (Qr := (q_x_refusedRow T o row n0 s0 im iz rw t0 u0 h0 y0 sv ra0 rb0 rc0 rd0 rah raz ra1 ras raf rbh rbz rb1 rbs rbf rch rcz rc1 rcs rcf rdh rdz rd1 rds rdf)) hC V ⟨(Nat.le_of_ble_eq_true rfl), (Nat.le_of_ble_eq_true rfl)⟩ (.inr ⟨(-6), rfl, rfl, (by decide +kernel), (by first | exact rw_0 (by assumption) (by assumption) | exact rw_1 (by assumption) (by assumption) | exact rw_2 (by assumption) (by assumption) | exact rw_3 (by assumption) (by assumption))⟩) dX7_refusedRow_28
      · skip
        refine lv_iconst (v := (nI 0)) hx hb dX7_refusedRow_22 (by decide +kernel) ?_
        refine lv_goto (tgt := 28) hx hb dX7_refusedRow_23 (by decide) ?_
        exact g_iret (Qr := (q_x_refusedRow T o row n0 s0 im iz rw t0 u0 h0 y0 sv ra0 rb0 rc0 rd0 rah raz ra1 ras raf rbh rbz rb1 rbs rbf rch rcz rc1 rcs rcf rdh rdz rd1 rds rdf)) hC V ⟨(Nat.le_of_ble_eq_true rfl), (Nat.le_of_ble_eq_true rfl)⟩ (.inl ⟨rfl, rfl, (by assumption), (by assumption), (fun h => by first | assumption | (exfalso; exact rw_ne h ej_4 (by decide +kernel))), (fun h => by first | assumption | (exfalso; exact rw_ne h ej_4 (by decide +kernel))), (fun h => by first | assumption | (exfalso; exact rw_ne h ej_4 (by decide +kernel))), (fun h => by first | assumption | (exfalso; exact rw_ne h ej_4 (by decide +kernel)))⟩) dX7_refusedRow_28
    · skip
      refine lv_if_ne (tgt := 10) hx hb dX7_refusedRow_4 (by decide) (fun _ => ?_) (fun c => absurd (show (nI 1) = 0 from c) (by decide +kernel))
      refine lv_aload_n hx hb dX7_refusedRow_10 rfl (lv_at hl 0 rfl) ?_
      refine g_get hC V (ci := 7) uwX7 0 rfl rfl 4 (by decide) w_253 rfl rfl dX7_refusedRow_11 ?_
      refine lv_iload_n hx hb dX7_refusedRow_14 rfl (lv_at hl 1 rfl) ?_
      refine g_aald hC V 1 5 rfl rfl (vp_in_nI (by decide) (by decide)) (v := .ref rd0) (by rw [nI_clamp (by decide)]; rfl) dX7_refusedRow_15 ?_
      refine g_get hC V (ci := 1) uwX1 8 rfl rfl 0 (by decide) w_229 rfl rfl dX7_refusedRow_16 ?_
      refine lv_if_eq (tgt := 26) hx hb dX7_refusedRow_19 (by decide) (fun c_8 => ?_) (fun c_8 => ?_)
      · skip
        refine lv_bipush (v := (-6)) hx hb dX7_refusedRow_26 (by decide +kernel) ?_
        exact g_iret (Qr := (q_x_refusedRow T o row n0 s0 im iz rw t0 u0 h0 y0 sv ra0 rb0 rc0 rd0 rah raz ra1 ras raf rbh rbz rb1 rbs rbf rch rcz rc1 rcs rcf rdh rdz rd1 rds rdf)) hC V ⟨(Nat.le_of_ble_eq_true rfl), (Nat.le_of_ble_eq_true rfl)⟩ (.inr ⟨(-6), rfl, rfl, (by decide +kernel), (by first | exact rw_0 (by assumption) (by assumption) | exact rw_1 (by assumption) (by assumption) | exact rw_2 (by assumption) (by assumption) | exact rw_3 (by assumption) (by assumption))⟩) dX7_refusedRow_28
      · skip
        refine lv_iconst (v := (nI 0)) hx hb dX7_refusedRow_22 (by decide +kernel) ?_
        refine lv_goto (tgt := 28) hx hb dX7_refusedRow_23 (by decide) ?_
        exact g_iret (Qr := (q_x_refusedRow T o row n0 s0 im iz rw t0 u0 h0 y0 sv ra0 rb0 rc0 rd0 rah raz ra1 ras raf rbh rbz rb1 rbs rbf rch rcz rc1 rcs rcf rdh rdz rd1 rds rdf)) hC V ⟨(Nat.le_of_ble_eq_true rfl), (Nat.le_of_ble_eq_true rfl)⟩ (.inl ⟨rfl, rfl, (by assumption), (by assumption), (fun h => by first | assumption | (exfalso; exact rw_ne h ej_4 (by decide +kernel))), (fun h => by first | assumption | (exfalso; exact rw_ne h ej_4 (by decide +kernel))), (fun h => by first | assumption | (exfalso; exact rw_ne h ej_4 (by decide +kernel))), (fun h => by first | assumption | (exfalso; exact rw_ne h ej_4 (by decide +kernel)))⟩) dX7_refusedRow_28
  · have V : gW D T A s [(o, .inr (7, [.ref n0, .ref s0, .ref im, .ref iz, .ref rw, .ref t0, .ref u0, .ref h0, .ref y0, sv])), (rw, .inl (T 5, 4, .inr (.inr (.inr (.inr (va_up (va_up (va_up (va_up (fun _ => none) 0 (some ra0)) 1 (some rb0)) 2 (some rc0)) 3 (some rd0))))))), (ra0, .inr (1, [.int rah, .int (nI raz), .ref ra1, .int (nI ras)])), (ra1, .inl (T 1, 40, .inr (.inl raf))), (rb0, .inr (1, [.int rbh, .int (nI rbz), .ref rb1, .int (nI rbs)])), (rb1, .inl (T 1, 40, .inr (.inl rbf))), (rc0, .inr (1, [.int rch, .int (nI rcz), .ref rc1, .int (nI rcs)])), (rc1, .inl (T 1, 40, .inr (.inl rcf))), (rd0, .inr (1, [.int rdh, .int (nI rdz), .ref rd1, .int (nI rds)])), (rd1, .inl (T 1, 40, .inr (.inl rdf)))] H locs := V _ [] rfl rfl rfl (by decide +kernel) rfl
    show W p l e _ s m args below meth c H locs _ _ _ (F0 m 4 ls [.int (nI 0)])
    refine lv_if_ne (tgt := 10) hx hb dX7_refusedRow_4 (by decide) (fun c => absurd (show (nI 0) = 0 by decide +kernel) c) (fun _ => ?_)
    refine lv_bipush (v := (-2)) hx hb dX7_refusedRow_7 (by decide +kernel) ?_
    exact g_iret (Qr := (q_x_refusedRow T o row n0 s0 im iz rw t0 u0 h0 y0 sv ra0 rb0 rc0 rd0 rah raz ra1 ras raf rbh rbz rb1 rbs rbf rch rcz rc1 rcs rcf rdh rdz rd1 rds rdf)) hC V ⟨(Nat.le_of_ble_eq_true rfl), (Nat.le_of_ble_eq_true rfl)⟩ (.inr ⟨(-2), rfl, rfl, (by decide +kernel), (rw_out (by assumption))⟩) dX7_refusedRow_9


def q_x_refusedSeen (T : Nat → ClassId) (o : Nat) (row : Int32) (n0 : Nat) (s0 : Nat) (im : Nat) (iz : Nat) (rw : Nat) (t0 : Nat) (u0 : Nat) (h0 : Nat) (y0 : Nat) (sv : Value) (ra0 : Nat) (rb0 : Nat) (rc0 : Nat) (rd0 : Nat) (rah : Int32) (raz : Nat) (ra1 : Nat) (ras : Nat) (raf : Nat → Int64) (rbh : Int32) (rbz : Nat) (rb1 : Nat) (rbs : Nat) (rbf : Nat → Int64) (rch : Int32) (rcz : Nat) (rc1 : Nat) (rcs : Nat) (rcf : Nat → Int64) (rdh : Int32) (rdz : Nat) (rd1 : Nat) (rds : Nat) (rdf : Nat → Int64) (nn : Nat) (nm : Int32) (nl : Int32) (no : Int32) (nu : Int32) (n1 : Nat) (n2 : Nat) (n3 : Nat) (n4 : Nat) (n5 : Nat) (n6 : Nat) (n7 : Nat) (n8 : Nat) (n9 : Nat) (n10 : Nat) : Option Value → va_W → Prop := fun rr ww => (rr = some (.int (nI 0)) ∧ ww = [(o, .inr (7, [.ref n0, .ref s0, .ref im, .ref iz, .ref rw, .ref t0, .ref u0, .ref h0, .ref y0, sv])), (rw, .inl (T 5, 4, .inr (.inr (.inr (.inr (va_up (va_up (va_up (va_up (fun _ => none) 0 (some ra0)) 1 (some rb0)) 2 (some rc0)) 3 (some rd0))))))), (ra0, .inr (1, [.int rah, .int (nI raz), .ref ra1, .int (nI ras)])), (ra1, .inl (T 1, 40, .inr (.inl raf))), (rb0, .inr (1, [.int rbh, .int (nI rbz), .ref rb1, .int (nI rbs)])), (rb1, .inl (T 1, 40, .inr (.inl rbf))), (rc0, .inr (1, [.int rch, .int (nI rcz), .ref rc1, .int (nI rcs)])), (rc1, .inl (T 1, 40, .inr (.inl rcf))), (rd0, .inr (1, [.int rdh, .int (nI rdz), .ref rd1, .int (nI rds)])), (rd1, .inl (T 1, 40, .inr (.inl rdf))), (n0, .inr (5, [.int (nI nn), .int nm, .int nl, .int no, .int nu, .ref n1, .ref n2, .ref n3, .ref n4, .ref n5, .ref n6, .ref n7, .ref n8, .ref n9, .ref n10]))] ∧ ¬ row < 0 ∧ ¬ nI 4 ≤ row) ∨ (∃ (z : Int32), rr = some (.int z) ∧ ww = [(o, .inr (7, [.ref n0, .ref s0, .ref im, .ref iz, .ref rw, .ref t0, .ref u0, .ref h0, .ref y0, sv])), (rw, .inl (T 5, 4, .inr (.inr (.inr (.inr (va_up (va_up (va_up (va_up (fun _ => none) 0 (some ra0)) 1 (some rb0)) 2 (some rc0)) 3 (some rd0))))))), (ra0, .inr (1, [.int rah, .int (nI raz), .ref ra1, .int (nI ras)])), (ra1, .inl (T 1, 40, .inr (.inl raf))), (rb0, .inr (1, [.int rbh, .int (nI rbz), .ref rb1, .int (nI rbs)])), (rb1, .inl (T 1, 40, .inr (.inl rbf))), (rc0, .inr (1, [.int rch, .int (nI rcz), .ref rc1, .int (nI rcs)])), (rc1, .inl (T 1, 40, .inr (.inl rcf))), (rd0, .inr (1, [.int rdh, .int (nI rdz), .ref rd1, .int (nI rds)])), (rd1, .inl (T 1, 40, .inr (.inl rdf))), (n0, .inr (5, [.int (nI nn), .int nm, .int nl, .int no, .int nu, .ref n1, .ref n2, .ref n3, .ref n4, .ref n5, .ref n6, .ref n7, .ref n8, .ref n9, .ref n10]))] ∧ ¬ z = 0)
set_option maxHeartbeats 4000000 in
set_option maxRecDepth 100000 in
theorem x_refusedSeen (l : Launch) (D : va_G) (T : Nat → ClassId) (o : Nat) (row : Int32) (n0 : Nat) (s0 : Nat) (im : Nat) (iz : Nat) (rw : Nat) (t0 : Nat) (u0 : Nat) (h0 : Nat) (y0 : Nat) (sv : Value) (ra0 : Nat) (rb0 : Nat) (rc0 : Nat) (rd0 : Nat) (rah : Int32) (raz : Nat) (ra1 : Nat) (ras : Nat) (raf : Nat → Int64) (rbh : Int32) (rbz : Nat) (rb1 : Nat) (rbs : Nat) (rbf : Nat → Int64) (rch : Int32) (rcz : Nat) (rc1 : Nat) (rcs : Nat) (rcf : Nat → Int64) (rdh : Int32) (rdz : Nat) (rd1 : Nat) (rds : Nat) (rdf : Nat → Int64) (nn : Nat) (nm : Int32) (nl : Int32) (no : Int32) (nu : Int32) (n1 : Nat) (n2 : Nat) (n3 : Nat) (n4 : Nat) (n5 : Nat) (n6 : Nat) (n7 : Nat) (n8 : Nat) (n9 : Nat) (n10 : Nat) (h_n : nn ≤ 10) (h_zra : raz ≤ 40) (h_zrb : rbz ≤ 40) (h_zrc : rcz ≤ 40) (h_zrd : rdz ≤ 40) (h_sra : ras ≤ 3) (h_srb : rbs ≤ 3) (h_src : rcs ≤ 3) (h_srd : rds ≤ 3) : Ct l yX7_refusedSeen cX7_refusedSeen 3 (some .int) 2 0 0 D T [.ref o, .int row] [(o, .inr (7, [.ref n0, .ref s0, .ref im, .ref iz, .ref rw, .ref t0, .ref u0, .ref h0, .ref y0, sv])), (rw, .inl (T 5, 4, .inr (.inr (.inr (.inr (va_up (va_up (va_up (va_up (fun _ => none) 0 (some ra0)) 1 (some rb0)) 2 (some rc0)) 3 (some rd0))))))), (ra0, .inr (1, [.int rah, .int (nI raz), .ref ra1, .int (nI ras)])), (ra1, .inl (T 1, 40, .inr (.inl raf))), (rb0, .inr (1, [.int rbh, .int (nI rbz), .ref rb1, .int (nI rbs)])), (rb1, .inl (T 1, 40, .inr (.inl rbf))), (rc0, .inr (1, [.int rch, .int (nI rcz), .ref rc1, .int (nI rcs)])), (rc1, .inl (T 1, 40, .inr (.inl rcf))), (rd0, .inr (1, [.int rdh, .int (nI rdz), .ref rd1, .int (nI rds)])), (rd1, .inl (T 1, 40, .inr (.inl rdf))), (n0, .inr (5, [.int (nI nn), .int nm, .int nl, .int no, .int nu, .ref n1, .ref n2, .ref n3, .ref n4, .ref n5, .ref n6, .ref n7, .ref n8, .ref n9, .ref n10]))] (q_x_refusedSeen T o row n0 s0 im iz rw t0 u0 h0 y0 sv ra0 rb0 rc0 rd0 rah raz ra1 ras raf rbh rbz rb1 rbs rbf rch rcz rc1 rcs rcf rdh rdz rd1 rds rdf nn nm nl no nu n1 n2 n3 n4 n5 n6 n7 n8 n9 n10) := by
  refine Ct.of (cc := cX7_refusedSeen) (maxL := 3) (ret := (some .int)) (by decide) (Nat.le_of_ble_eq_true rfl) ?_
  intro p e s m args below meth c A ls hC hnm V hl
  obtain ⟨hx, hb, hr, hml, hown, hts, hlocks⟩ := id hC
  generalize hH : s.heap = H at V ⊢
  clear hH
  have hl : lv_has ls 3 [(0, .ref o), (1, .int row)] := hl
  generalize hlo : ([] : List Loc) = locs at V ⊢
  clear hlo
  refine lv_aload_n hx hb dX7_refusedSeen_0 rfl (lv_at hl 0 rfl) ?_
  refine lv_iload_n hx hb dX7_refusedSeen_1 rfl (lv_at hl 1 rfl) ?_
  refine g_callVU (nA := 1) hC V hl.1 (x_refusedRow l D T o row n0 s0 im iz rw t0 u0 h0 y0 sv ra0 rb0 rc0 rd0 rah raz ra1 ras raf rbh rbz rb1 rbs rbf rch rcz rc1 rcs rcf rdh rdz rd1 rds rdf) w_524 w_526 w_s11 w_2 w_527 (by decide +kernel) rfl ⟨(Nat.le_of_ble_eq_true rfl), (Nat.le_of_ble_eq_true rfl)⟩ 0 (ci := 7) rfl rfl [0, 1, 2, 3, 4, 5, 6, 7, 8, 9] rfl rfl (Nat.le_of_ble_eq_true rfl) dX7_refusedSeen_2 ⟨(Nat.le_of_ble_eq_true rfl), (Nat.le_of_ble_eq_true rfl)⟩ rfl (fun r w1 H locs hQ V => ?_)
  rcases hQ with ⟨rfl, rfl, f_1, f_2, f_3, f_4, f_5, f_6⟩ | ⟨z_7, rfl, rfl, f_8, f_9⟩
  · have V : gW D T A s [(o, .inr (7, [.ref n0, .ref s0, .ref im, .ref iz, .ref rw, .ref t0, .ref u0, .ref h0, .ref y0, sv])), (rw, .inl (T 5, 4, .inr (.inr (.inr (.inr (va_up (va_up (va_up (va_up (fun _ => none) 0 (some ra0)) 1 (some rb0)) 2 (some rc0)) 3 (some rd0))))))), (ra0, .inr (1, [.int rah, .int (nI raz), .ref ra1, .int (nI ras)])), (ra1, .inl (T 1, 40, .inr (.inl raf))), (rb0, .inr (1, [.int rbh, .int (nI rbz), .ref rb1, .int (nI rbs)])), (rb1, .inl (T 1, 40, .inr (.inl rbf))), (rc0, .inr (1, [.int rch, .int (nI rcz), .ref rc1, .int (nI rcs)])), (rc1, .inl (T 1, 40, .inr (.inl rcf))), (rd0, .inr (1, [.int rdh, .int (nI rdz), .ref rd1, .int (nI rds)])), (rd1, .inl (T 1, 40, .inr (.inl rdf))), (n0, .inr (5, [.int (nI nn), .int nm, .int nl, .int no, .int nu, .ref n1, .ref n2, .ref n3, .ref n4, .ref n5, .ref n6, .ref n7, .ref n8, .ref n9, .ref n10]))] H locs := V _ [0, 0, 0, 0, 0, 0, 0, 0, 0, 0] rfl rfl rfl (by decide +kernel) rfl
    show W p l e _ s m args below meth c H locs _ _ _ (F0 m 5 ls [.int (nI 0)])
    obtain ⟨j_10, hj_10, ej_10⟩ := g_idx (n := 4) (by decide) f_1 f_2
    rw [ej_10] at hl
    have hj_10 : j_10 = 0 ∨ j_10 = 1 ∨ j_10 = 2 ∨ j_10 = 3 := by omega
    rcases hj_10 with rfl | rfl | rfl | rfl
    · skip
      refine lv_istore_n (lv' := [(2, .int (nI 0)), (0, .ref o), (1, .int (nI 0))]) hx hb dX7_refusedSeen_5 rfl hl (by decide) rfl (fun ls hl => ?_)
      refine lv_iload_n hx hb dX7_refusedSeen_6 rfl (lv_at hl 0 rfl) ?_
      refine lv_if_eq (tgt := 12) hx hb dX7_refusedSeen_7 (by decide) (fun _ => ?_) (fun c => absurd (show (nI 0) = 0 by decide +kernel) c)
      refine lv_aload_n hx hb dX7_refusedSeen_12 rfl (lv_at hl 1 rfl) ?_
      refine g_get hC V (ci := 7) uwX7 0 rfl rfl 4 (by decide) w_253 rfl rfl dX7_refusedSeen_13 ?_
      refine lv_iload_n hx hb dX7_refusedSeen_16 rfl (lv_at hl 2 rfl) ?_
      refine g_aald hC V 1 5 rfl rfl (vp_in_nI (by decide) (by decide)) (v := .ref ra0) (by rw [nI_clamp (by decide)]; rfl) dX7_refusedSeen_17 ?_
      refine g_get hC V (ci := 1) uwX1 2 rfl rfl 1 (by decide) w_232 rfl rfl dX7_refusedSeen_18 ?_
      refine lv_aload_n hx hb dX7_refusedSeen_21 rfl (lv_at hl 1 rfl) ?_
      refine g_get hC V (ci := 7) uwX7 0 rfl rfl 0 (by decide) w_249 rfl rfl dX7_refusedSeen_22 ?_
      refine g_get hC V (ci := 5) uwX5 10 rfl rfl 0 (by decide) w_38 rfl rfl dX7_refusedSeen_25 ?_
      refine lv_icmp_ne (tgt := 35) hx hb dX7_refusedSeen_28 (by decide) (fun c_11 => ?_) (fun c_11 => ?_)
      · skip
        have c_11 := b_ne (by omega) (by omega) c_11
        refine lv_bipush (v := (-7)) hx hb dX7_refusedSeen_35 (by decide +kernel) ?_
        exact g_iret (Qr := (q_x_refusedSeen T o row n0 s0 im iz rw t0 u0 h0 y0 sv ra0 rb0 rc0 rd0 rah raz ra1 ras raf rbh rbz rb1 rbs rbf rch rcz rc1 rcs rcf rdh rdz rd1 rds rdf nn nm nl no nu n1 n2 n3 n4 n5 n6 n7 n8 n9 n10)) hC V ⟨(Nat.le_of_ble_eq_true rfl), (Nat.le_of_ble_eq_true rfl)⟩ (.inr ⟨(-7), rfl, rfl, (by decide +kernel)⟩) dX7_refusedSeen_37
      · skip
        have c_11 := b_eq (by omega) (by omega) c_11
        refine lv_iconst (v := (nI 0)) hx hb dX7_refusedSeen_31 (by decide +kernel) ?_
        refine lv_goto (tgt := 37) hx hb dX7_refusedSeen_32 (by decide) ?_
        exact g_iret (Qr := (q_x_refusedSeen T o row n0 s0 im iz rw t0 u0 h0 y0 sv ra0 rb0 rc0 rd0 rah raz ra1 ras raf rbh rbz rb1 rbs rbf rch rcz rc1 rcs rcf rdh rdz rd1 rds rdf nn nm nl no nu n1 n2 n3 n4 n5 n6 n7 n8 n9 n10)) hC V ⟨(Nat.le_of_ble_eq_true rfl), (Nat.le_of_ble_eq_true rfl)⟩ (.inl ⟨rfl, rfl, (by assumption), (by assumption)⟩) dX7_refusedSeen_37
    · skip
      refine lv_istore_n (lv' := [(2, .int (nI 0)), (0, .ref o), (1, .int (nI 1))]) hx hb dX7_refusedSeen_5 rfl hl (by decide) rfl (fun ls hl => ?_)
      refine lv_iload_n hx hb dX7_refusedSeen_6 rfl (lv_at hl 0 rfl) ?_
      refine lv_if_eq (tgt := 12) hx hb dX7_refusedSeen_7 (by decide) (fun _ => ?_) (fun c => absurd (show (nI 0) = 0 by decide +kernel) c)
      refine lv_aload_n hx hb dX7_refusedSeen_12 rfl (lv_at hl 1 rfl) ?_
      refine g_get hC V (ci := 7) uwX7 0 rfl rfl 4 (by decide) w_253 rfl rfl dX7_refusedSeen_13 ?_
      refine lv_iload_n hx hb dX7_refusedSeen_16 rfl (lv_at hl 2 rfl) ?_
      refine g_aald hC V 1 5 rfl rfl (vp_in_nI (by decide) (by decide)) (v := .ref rb0) (by rw [nI_clamp (by decide)]; rfl) dX7_refusedSeen_17 ?_
      refine g_get hC V (ci := 1) uwX1 4 rfl rfl 1 (by decide) w_232 rfl rfl dX7_refusedSeen_18 ?_
      refine lv_aload_n hx hb dX7_refusedSeen_21 rfl (lv_at hl 1 rfl) ?_
      refine g_get hC V (ci := 7) uwX7 0 rfl rfl 0 (by decide) w_249 rfl rfl dX7_refusedSeen_22 ?_
      refine g_get hC V (ci := 5) uwX5 10 rfl rfl 0 (by decide) w_38 rfl rfl dX7_refusedSeen_25 ?_
      refine lv_icmp_ne (tgt := 35) hx hb dX7_refusedSeen_28 (by decide) (fun c_12 => ?_) (fun c_12 => ?_)
      · skip
        have c_12 := b_ne (by omega) (by omega) c_12
        refine lv_bipush (v := (-7)) hx hb dX7_refusedSeen_35 (by decide +kernel) ?_
        exact g_iret (Qr := (q_x_refusedSeen T o row n0 s0 im iz rw t0 u0 h0 y0 sv ra0 rb0 rc0 rd0 rah raz ra1 ras raf rbh rbz rb1 rbs rbf rch rcz rc1 rcs rcf rdh rdz rd1 rds rdf nn nm nl no nu n1 n2 n3 n4 n5 n6 n7 n8 n9 n10)) hC V ⟨(Nat.le_of_ble_eq_true rfl), (Nat.le_of_ble_eq_true rfl)⟩ (.inr ⟨(-7), rfl, rfl, (by decide +kernel)⟩) dX7_refusedSeen_37
      · skip
        have c_12 := b_eq (by omega) (by omega) c_12
        refine lv_iconst (v := (nI 0)) hx hb dX7_refusedSeen_31 (by decide +kernel) ?_
        refine lv_goto (tgt := 37) hx hb dX7_refusedSeen_32 (by decide) ?_
        exact g_iret (Qr := (q_x_refusedSeen T o row n0 s0 im iz rw t0 u0 h0 y0 sv ra0 rb0 rc0 rd0 rah raz ra1 ras raf rbh rbz rb1 rbs rbf rch rcz rc1 rcs rcf rdh rdz rd1 rds rdf nn nm nl no nu n1 n2 n3 n4 n5 n6 n7 n8 n9 n10)) hC V ⟨(Nat.le_of_ble_eq_true rfl), (Nat.le_of_ble_eq_true rfl)⟩ (.inl ⟨rfl, rfl, (by assumption), (by assumption)⟩) dX7_refusedSeen_37
    · skip
      refine lv_istore_n (lv' := [(2, .int (nI 0)), (0, .ref o), (1, .int (nI 2))]) hx hb dX7_refusedSeen_5 rfl hl (by decide) rfl (fun ls hl => ?_)
      refine lv_iload_n hx hb dX7_refusedSeen_6 rfl (lv_at hl 0 rfl) ?_
      refine lv_if_eq (tgt := 12) hx hb dX7_refusedSeen_7 (by decide) (fun _ => ?_) (fun c => absurd (show (nI 0) = 0 by decide +kernel) c)
      refine lv_aload_n hx hb dX7_refusedSeen_12 rfl (lv_at hl 1 rfl) ?_
      refine g_get hC V (ci := 7) uwX7 0 rfl rfl 4 (by decide) w_253 rfl rfl dX7_refusedSeen_13 ?_
      refine lv_iload_n hx hb dX7_refusedSeen_16 rfl (lv_at hl 2 rfl) ?_
      refine g_aald hC V 1 5 rfl rfl (vp_in_nI (by decide) (by decide)) (v := .ref rc0) (by rw [nI_clamp (by decide)]; rfl) dX7_refusedSeen_17 ?_
      refine g_get hC V (ci := 1) uwX1 6 rfl rfl 1 (by decide) w_232 rfl rfl dX7_refusedSeen_18 ?_
      refine lv_aload_n hx hb dX7_refusedSeen_21 rfl (lv_at hl 1 rfl) ?_
      refine g_get hC V (ci := 7) uwX7 0 rfl rfl 0 (by decide) w_249 rfl rfl dX7_refusedSeen_22 ?_
      refine g_get hC V (ci := 5) uwX5 10 rfl rfl 0 (by decide) w_38 rfl rfl dX7_refusedSeen_25 ?_
      refine lv_icmp_ne (tgt := 35) hx hb dX7_refusedSeen_28 (by decide) (fun c_13 => ?_) (fun c_13 => ?_)
      · skip
        have c_13 := b_ne (by omega) (by omega) c_13
        refine lv_bipush (v := (-7)) hx hb dX7_refusedSeen_35 (by decide +kernel) ?_
        exact g_iret (Qr := (q_x_refusedSeen T o row n0 s0 im iz rw t0 u0 h0 y0 sv ra0 rb0 rc0 rd0 rah raz ra1 ras raf rbh rbz rb1 rbs rbf rch rcz rc1 rcs rcf rdh rdz rd1 rds rdf nn nm nl no nu n1 n2 n3 n4 n5 n6 n7 n8 n9 n10)) hC V ⟨(Nat.le_of_ble_eq_true rfl), (Nat.le_of_ble_eq_true rfl)⟩ (.inr ⟨(-7), rfl, rfl, (by decide +kernel)⟩) dX7_refusedSeen_37
      · skip
        have c_13 := b_eq (by omega) (by omega) c_13
        refine lv_iconst (v := (nI 0)) hx hb dX7_refusedSeen_31 (by decide +kernel) ?_
        refine lv_goto (tgt := 37) hx hb dX7_refusedSeen_32 (by decide) ?_
        exact g_iret (Qr := (q_x_refusedSeen T o row n0 s0 im iz rw t0 u0 h0 y0 sv ra0 rb0 rc0 rd0 rah raz ra1 ras raf rbh rbz rb1 rbs rbf rch rcz rc1 rcs rcf rdh rdz rd1 rds rdf nn nm nl no nu n1 n2 n3 n4 n5 n6 n7 n8 n9 n10)) hC V ⟨(Nat.le_of_ble_eq_true rfl), (Nat.le_of_ble_eq_true rfl)⟩ (.inl ⟨rfl, rfl, (by assumption), (by assumption)⟩) dX7_refusedSeen_37
    · skip
      refine lv_istore_n (lv' := [(2, .int (nI 0)), (0, .ref o), (1, .int (nI 3))]) hx hb dX7_refusedSeen_5 rfl hl (by decide) rfl (fun ls hl => ?_)
      refine lv_iload_n hx hb dX7_refusedSeen_6 rfl (lv_at hl 0 rfl) ?_
      refine lv_if_eq (tgt := 12) hx hb dX7_refusedSeen_7 (by decide) (fun _ => ?_) (fun c => absurd (show (nI 0) = 0 by decide +kernel) c)
      refine lv_aload_n hx hb dX7_refusedSeen_12 rfl (lv_at hl 1 rfl) ?_
      refine g_get hC V (ci := 7) uwX7 0 rfl rfl 4 (by decide) w_253 rfl rfl dX7_refusedSeen_13 ?_
      refine lv_iload_n hx hb dX7_refusedSeen_16 rfl (lv_at hl 2 rfl) ?_
      refine g_aald hC V 1 5 rfl rfl (vp_in_nI (by decide) (by decide)) (v := .ref rd0) (by rw [nI_clamp (by decide)]; rfl) dX7_refusedSeen_17 ?_
      refine g_get hC V (ci := 1) uwX1 8 rfl rfl 1 (by decide) w_232 rfl rfl dX7_refusedSeen_18 ?_
      refine lv_aload_n hx hb dX7_refusedSeen_21 rfl (lv_at hl 1 rfl) ?_
      refine g_get hC V (ci := 7) uwX7 0 rfl rfl 0 (by decide) w_249 rfl rfl dX7_refusedSeen_22 ?_
      refine g_get hC V (ci := 5) uwX5 10 rfl rfl 0 (by decide) w_38 rfl rfl dX7_refusedSeen_25 ?_
      refine lv_icmp_ne (tgt := 35) hx hb dX7_refusedSeen_28 (by decide) (fun c_14 => ?_) (fun c_14 => ?_)
      · skip
        have c_14 := b_ne (by omega) (by omega) c_14
        refine lv_bipush (v := (-7)) hx hb dX7_refusedSeen_35 (by decide +kernel) ?_
        exact g_iret (Qr := (q_x_refusedSeen T o row n0 s0 im iz rw t0 u0 h0 y0 sv ra0 rb0 rc0 rd0 rah raz ra1 ras raf rbh rbz rb1 rbs rbf rch rcz rc1 rcs rcf rdh rdz rd1 rds rdf nn nm nl no nu n1 n2 n3 n4 n5 n6 n7 n8 n9 n10)) hC V ⟨(Nat.le_of_ble_eq_true rfl), (Nat.le_of_ble_eq_true rfl)⟩ (.inr ⟨(-7), rfl, rfl, (by decide +kernel)⟩) dX7_refusedSeen_37
      · skip
        have c_14 := b_eq (by omega) (by omega) c_14
        refine lv_iconst (v := (nI 0)) hx hb dX7_refusedSeen_31 (by decide +kernel) ?_
        refine lv_goto (tgt := 37) hx hb dX7_refusedSeen_32 (by decide) ?_
        exact g_iret (Qr := (q_x_refusedSeen T o row n0 s0 im iz rw t0 u0 h0 y0 sv ra0 rb0 rc0 rd0 rah raz ra1 ras raf rbh rbz rb1 rbs rbf rch rcz rc1 rcs rcf rdh rdz rd1 rds rdf nn nm nl no nu n1 n2 n3 n4 n5 n6 n7 n8 n9 n10)) hC V ⟨(Nat.le_of_ble_eq_true rfl), (Nat.le_of_ble_eq_true rfl)⟩ (.inl ⟨rfl, rfl, (by assumption), (by assumption)⟩) dX7_refusedSeen_37
  · have V : gW D T A s [(o, .inr (7, [.ref n0, .ref s0, .ref im, .ref iz, .ref rw, .ref t0, .ref u0, .ref h0, .ref y0, sv])), (rw, .inl (T 5, 4, .inr (.inr (.inr (.inr (va_up (va_up (va_up (va_up (fun _ => none) 0 (some ra0)) 1 (some rb0)) 2 (some rc0)) 3 (some rd0))))))), (ra0, .inr (1, [.int rah, .int (nI raz), .ref ra1, .int (nI ras)])), (ra1, .inl (T 1, 40, .inr (.inl raf))), (rb0, .inr (1, [.int rbh, .int (nI rbz), .ref rb1, .int (nI rbs)])), (rb1, .inl (T 1, 40, .inr (.inl rbf))), (rc0, .inr (1, [.int rch, .int (nI rcz), .ref rc1, .int (nI rcs)])), (rc1, .inl (T 1, 40, .inr (.inl rcf))), (rd0, .inr (1, [.int rdh, .int (nI rdz), .ref rd1, .int (nI rds)])), (rd1, .inl (T 1, 40, .inr (.inl rdf))), (n0, .inr (5, [.int (nI nn), .int nm, .int nl, .int no, .int nu, .ref n1, .ref n2, .ref n3, .ref n4, .ref n5, .ref n6, .ref n7, .ref n8, .ref n9, .ref n10]))] H locs := V _ [0, 0, 0, 0, 0, 0, 0, 0, 0, 0] rfl rfl rfl (by decide +kernel) rfl
    show W p l e _ s m args below meth c H locs _ _ _ (F0 m 5 ls [.int z_7])
    refine lv_istore_n (lv' := [(2, .int z_7), (0, .ref o), (1, .int row)]) hx hb dX7_refusedSeen_5 rfl hl (by decide) rfl (fun ls hl => ?_)
    refine lv_iload_n hx hb dX7_refusedSeen_6 rfl (lv_at hl 0 rfl) ?_
    refine lv_if_eq (tgt := 12) hx hb dX7_refusedSeen_7 (by decide) (fun c_15 => ?_) (fun c_15 => ?_)
    · skip
      exact (absurd c_15 (by assumption) : False).elim
    · skip
      refine lv_iload_n hx hb dX7_refusedSeen_10 rfl (lv_at hl 0 rfl) ?_
      exact g_iret (Qr := (q_x_refusedSeen T o row n0 s0 im iz rw t0 u0 h0 y0 sv ra0 rb0 rc0 rd0 rah raz ra1 ras raf rbh rbz rb1 rbs rbf rch rcz rc1 rcs rcf rdh rdz rd1 rds rdf nn nm nl no nu n1 n2 n3 n4 n5 n6 n7 n8 n9 n10)) hC V ⟨(Nat.le_of_ble_eq_true rfl), (Nat.le_of_ble_eq_true rfl)⟩ (.inr ⟨z_7, rfl, rfl, (by first | assumption | omega)⟩) dX7_refusedSeen_11

def q_x_refusedRhythms (T : Nat → ClassId) (o : Nat) (row : Int32) (le : Int32) (n0 : Nat) (s0 : Nat) (im : Nat) (iz : Nat) (rw : Nat) (t0 : Nat) (u0 : Nat) (h0 : Nat) (y0 : Nat) (sv : Value) (ra0 : Nat) (rb0 : Nat) (rc0 : Nat) (rd0 : Nat) (rah : Int32) (raz : Nat) (ra1 : Nat) (ras : Nat) (raf : Nat → Int64) (rbh : Int32) (rbz : Nat) (rb1 : Nat) (rbs : Nat) (rbf : Nat → Int64) (rch : Int32) (rcz : Nat) (rc1 : Nat) (rcs : Nat) (rcf : Nat → Int64) (rdh : Int32) (rdz : Nat) (rd1 : Nat) (rds : Nat) (rdf : Nat → Int64) (nn : Nat) (nm : Int32) (nl : Int32) (no : Int32) (nu : Int32) (n1 : Nat) (n2 : Nat) (n3 : Nat) (n4 : Nat) (n5 : Nat) (n6 : Nat) (n7 : Nat) (n8 : Nat) (n9 : Nat) (n10 : Nat) : Option Value → va_W → Prop := fun rr ww => (∃ (j : Nat), rr = some (.int (nI 0)) ∧ ww = [(o, .inr (7, [.ref n0, .ref s0, .ref im, .ref iz, .ref rw, .ref t0, .ref u0, .ref h0, .ref y0, sv])), (rw, .inl (T 5, 4, .inr (.inr (.inr (.inr (va_up (va_up (va_up (va_up (fun _ => none) 0 (some ra0)) 1 (some rb0)) 2 (some rc0)) 3 (some rd0))))))), (ra0, .inr (1, [.int rah, .int (nI raz), .ref ra1, .int (nI ras)])), (ra1, .inl (T 1, 40, .inr (.inl raf))), (rb0, .inr (1, [.int rbh, .int (nI rbz), .ref rb1, .int (nI rbs)])), (rb1, .inl (T 1, 40, .inr (.inl rbf))), (rc0, .inr (1, [.int rch, .int (nI rcz), .ref rc1, .int (nI rcs)])), (rc1, .inl (T 1, 40, .inr (.inl rcf))), (rd0, .inr (1, [.int rdh, .int (nI rdz), .ref rd1, .int (nI rds)])), (rd1, .inl (T 1, 40, .inr (.inl rdf))), (n0, .inr (5, [.int (nI nn), .int nm, .int nl, .int no, .int nu, .ref n1, .ref n2, .ref n3, .ref n4, .ref n5, .ref n6, .ref n7, .ref n8, .ref n9, .ref n10]))] ∧ ¬ row < 0 ∧ ¬ nI 4 ≤ row ∧ 1 ≤ j ∧ j ≤ 12 ∧ le = nI j) ∨ (∃ (z : Int32), rr = some (.int z) ∧ ww = [(o, .inr (7, [.ref n0, .ref s0, .ref im, .ref iz, .ref rw, .ref t0, .ref u0, .ref h0, .ref y0, sv])), (rw, .inl (T 5, 4, .inr (.inr (.inr (.inr (va_up (va_up (va_up (va_up (fun _ => none) 0 (some ra0)) 1 (some rb0)) 2 (some rc0)) 3 (some rd0))))))), (ra0, .inr (1, [.int rah, .int (nI raz), .ref ra1, .int (nI ras)])), (ra1, .inl (T 1, 40, .inr (.inl raf))), (rb0, .inr (1, [.int rbh, .int (nI rbz), .ref rb1, .int (nI rbs)])), (rb1, .inl (T 1, 40, .inr (.inl rbf))), (rc0, .inr (1, [.int rch, .int (nI rcz), .ref rc1, .int (nI rcs)])), (rc1, .inl (T 1, 40, .inr (.inl rcf))), (rd0, .inr (1, [.int rdh, .int (nI rdz), .ref rd1, .int (nI rds)])), (rd1, .inl (T 1, 40, .inr (.inl rdf))), (n0, .inr (5, [.int (nI nn), .int nm, .int nl, .int no, .int nu, .ref n1, .ref n2, .ref n3, .ref n4, .ref n5, .ref n6, .ref n7, .ref n8, .ref n9, .ref n10]))] ∧ ¬ z = 0)
set_option maxHeartbeats 4000000 in
set_option maxRecDepth 100000 in
theorem x_refusedRhythms (l : Launch) (D : va_G) (T : Nat → ClassId) (o : Nat) (row : Int32) (le : Int32) (n0 : Nat) (s0 : Nat) (im : Nat) (iz : Nat) (rw : Nat) (t0 : Nat) (u0 : Nat) (h0 : Nat) (y0 : Nat) (sv : Value) (ra0 : Nat) (rb0 : Nat) (rc0 : Nat) (rd0 : Nat) (rah : Int32) (raz : Nat) (ra1 : Nat) (ras : Nat) (raf : Nat → Int64) (rbh : Int32) (rbz : Nat) (rb1 : Nat) (rbs : Nat) (rbf : Nat → Int64) (rch : Int32) (rcz : Nat) (rc1 : Nat) (rcs : Nat) (rcf : Nat → Int64) (rdh : Int32) (rdz : Nat) (rd1 : Nat) (rds : Nat) (rdf : Nat → Int64) (nn : Nat) (nm : Int32) (nl : Int32) (no : Int32) (nu : Int32) (n1 : Nat) (n2 : Nat) (n3 : Nat) (n4 : Nat) (n5 : Nat) (n6 : Nat) (n7 : Nat) (n8 : Nat) (n9 : Nat) (n10 : Nat) (h_n : nn ≤ 10) (h_zra : raz ≤ 40) (h_zrb : rbz ≤ 40) (h_zrc : rcz ≤ 40) (h_zrd : rdz ≤ 40) (h_sra : ras ≤ 3) (h_srb : rbs ≤ 3) (h_src : rcs ≤ 3) (h_srd : rds ≤ 3) : Ct l yX7_refusedRhythms cX7_refusedRhythms 4 (some .int) 3 0 0 D T [.ref o, .int row, .int le] [(o, .inr (7, [.ref n0, .ref s0, .ref im, .ref iz, .ref rw, .ref t0, .ref u0, .ref h0, .ref y0, sv])), (rw, .inl (T 5, 4, .inr (.inr (.inr (.inr (va_up (va_up (va_up (va_up (fun _ => none) 0 (some ra0)) 1 (some rb0)) 2 (some rc0)) 3 (some rd0))))))), (ra0, .inr (1, [.int rah, .int (nI raz), .ref ra1, .int (nI ras)])), (ra1, .inl (T 1, 40, .inr (.inl raf))), (rb0, .inr (1, [.int rbh, .int (nI rbz), .ref rb1, .int (nI rbs)])), (rb1, .inl (T 1, 40, .inr (.inl rbf))), (rc0, .inr (1, [.int rch, .int (nI rcz), .ref rc1, .int (nI rcs)])), (rc1, .inl (T 1, 40, .inr (.inl rcf))), (rd0, .inr (1, [.int rdh, .int (nI rdz), .ref rd1, .int (nI rds)])), (rd1, .inl (T 1, 40, .inr (.inl rdf))), (n0, .inr (5, [.int (nI nn), .int nm, .int nl, .int no, .int nu, .ref n1, .ref n2, .ref n3, .ref n4, .ref n5, .ref n6, .ref n7, .ref n8, .ref n9, .ref n10]))] (q_x_refusedRhythms T o row le n0 s0 im iz rw t0 u0 h0 y0 sv ra0 rb0 rc0 rd0 rah raz ra1 ras raf rbh rbz rb1 rbs rbf rch rcz rc1 rcs rcf rdh rdz rd1 rds rdf nn nm nl no nu n1 n2 n3 n4 n5 n6 n7 n8 n9 n10) := by
  refine Ct.of (cc := cX7_refusedRhythms) (maxL := 4) (ret := (some .int)) (by decide) (Nat.le_of_ble_eq_true rfl) ?_
  intro p e s m args below meth c A ls hC hnm V hl
  obtain ⟨hx, hb, hr, hml, hown, hts, hlocks⟩ := id hC
  generalize hH : s.heap = H at V ⊢
  clear hH
  have hl : lv_has ls 4 [(0, .ref o), (1, .int row), (2, .int le)] := hl
  generalize hlo : ([] : List Loc) = locs at V ⊢
  clear hlo
  refine lv_aload_n hx hb dX7_refusedRhythms_0 rfl (lv_at hl 0 rfl) ?_
  refine lv_iload_n hx hb dX7_refusedRhythms_1 rfl (lv_at hl 1 rfl) ?_
  refine g_callV (wr := []) (nA := 1) hC V hl.1 (x_refusedSeen l D T o row n0 s0 im iz rw t0 u0 h0 y0 sv ra0 rb0 rc0 rd0 rah raz ra1 ras raf rbh rbz rb1 rbs rbf rch rcz rc1 rcs rcf rdh rdz rd1 rds rdf nn nm nl no nu n1 n2 n3 n4 n5 n6 n7 n8 n9 n10 (by first | assumption | omega) (by first | assumption | omega) (by first | assumption | omega) (by first | assumption | omega) (by first | assumption | omega) (by first | assumption | omega) (by first | assumption | omega) (by first | assumption | omega) (by first | assumption | omega)) w_598 w_600 w_s16 w_2 w_601 (by decide +kernel) rfl ⟨(Nat.le_of_ble_eq_true rfl), (Nat.le_of_ble_eq_true rfl)⟩ 0 (ci := 7) rfl rfl [0, 1, 2, 3, 4, 5, 6, 7, 8, 9, 10] [] rfl rfl rfl rfl (by decide) (Nat.le_of_ble_eq_true rfl) dX7_refusedRhythms_2 ⟨(Nat.le_of_ble_eq_true rfl), (Nat.le_of_ble_eq_true rfl)⟩ rfl (fun r w1 H locs hQ V => ?_)
  rcases hQ with ⟨rfl, rfl, f_1, f_2⟩ | ⟨z_3, rfl, rfl, f_4⟩
  · have V : gW D T A s [(o, .inr (7, [.ref n0, .ref s0, .ref im, .ref iz, .ref rw, .ref t0, .ref u0, .ref h0, .ref y0, sv])), (rw, .inl (T 5, 4, .inr (.inr (.inr (.inr (va_up (va_up (va_up (va_up (fun _ => none) 0 (some ra0)) 1 (some rb0)) 2 (some rc0)) 3 (some rd0))))))), (ra0, .inr (1, [.int rah, .int (nI raz), .ref ra1, .int (nI ras)])), (ra1, .inl (T 1, 40, .inr (.inl raf))), (rb0, .inr (1, [.int rbh, .int (nI rbz), .ref rb1, .int (nI rbs)])), (rb1, .inl (T 1, 40, .inr (.inl rbf))), (rc0, .inr (1, [.int rch, .int (nI rcz), .ref rc1, .int (nI rcs)])), (rc1, .inl (T 1, 40, .inr (.inl rcf))), (rd0, .inr (1, [.int rdh, .int (nI rdz), .ref rd1, .int (nI rds)])), (rd1, .inl (T 1, 40, .inr (.inl rdf))), (n0, .inr (5, [.int (nI nn), .int nm, .int nl, .int no, .int nu, .ref n1, .ref n2, .ref n3, .ref n4, .ref n5, .ref n6, .ref n7, .ref n8, .ref n9, .ref n10]))] H locs := V
    show W p l e _ s m args below meth c H locs _ _ _ (F0 m 5 ls [.int (nI 0)])
    refine lv_istore_n (lv' := [(3, .int (nI 0)), (0, .ref o), (1, .int row), (2, .int le)]) hx hb dX7_refusedRhythms_5 rfl hl (by decide) rfl (fun ls hl => ?_)
    refine lv_iload_n hx hb dX7_refusedRhythms_6 rfl (lv_at hl 0 rfl) ?_
    refine lv_if_eq (tgt := 12) hx hb dX7_refusedRhythms_7 (by decide) (fun _ => ?_) (fun c => absurd (show (nI 0) = 0 by decide +kernel) c)
    refine lv_iload_n hx hb dX7_refusedRhythms_12 rfl (lv_at hl 3 rfl) ?_
    refine lv_iconst (v := (nI 1)) hx hb dX7_refusedRhythms_13 (by decide +kernel) ?_
    refine lv_bipush (v := (nI 12)) hx hb dX7_refusedRhythms_14 (by decide +kernel) ?_
    refine g_callSU (nA := 3) hC V hl.1 (c_isWithin l D T le (nI 1) (nI 12)) w_292 w_293 w_2 w_294 (by decide +kernel) rfl ⟨(Nat.le_of_ble_eq_true rfl), (Nat.le_of_ble_eq_true rfl)⟩ [] rfl rfl (Nat.le_of_ble_eq_true rfl) dX7_refusedRhythms_16 ⟨(Nat.le_of_ble_eq_true rfl), (Nat.le_of_ble_eq_true rfl)⟩ rfl (fun r w1 H locs hQ V => ?_)
    rcases hQ with ⟨rfl, rfl, f_5, f_6⟩ | ⟨rfl, rfl, f_7⟩
    · have V : gW D T A s [(o, .inr (7, [.ref n0, .ref s0, .ref im, .ref iz, .ref rw, .ref t0, .ref u0, .ref h0, .ref y0, sv])), (rw, .inl (T 5, 4, .inr (.inr (.inr (.inr (va_up (va_up (va_up (va_up (fun _ => none) 0 (some ra0)) 1 (some rb0)) 2 (some rc0)) 3 (some rd0))))))), (ra0, .inr (1, [.int rah, .int (nI raz), .ref ra1, .int (nI ras)])), (ra1, .inl (T 1, 40, .inr (.inl raf))), (rb0, .inr (1, [.int rbh, .int (nI rbz), .ref rb1, .int (nI rbs)])), (rb1, .inl (T 1, 40, .inr (.inl rbf))), (rc0, .inr (1, [.int rch, .int (nI rcz), .ref rc1, .int (nI rcs)])), (rc1, .inl (T 1, 40, .inr (.inl rcf))), (rd0, .inr (1, [.int rdh, .int (nI rdz), .ref rd1, .int (nI rds)])), (rd1, .inl (T 1, 40, .inr (.inl rdf))), (n0, .inr (5, [.int (nI nn), .int nm, .int nl, .int no, .int nu, .ref n1, .ref n2, .ref n3, .ref n4, .ref n5, .ref n6, .ref n7, .ref n8, .ref n9, .ref n10]))] H locs := V _ [] rfl rfl rfl (by decide +kernel) rfl
      show W p l e _ s m args below meth c H locs _ _ _ (F0 m 19 ls [.int (nI 1)])
      obtain ⟨i, hi1, hi2, ei⟩ := g_rng (by first | decide | omega) (by first | decide | omega) f_5 f_6
      rw [ei] at hl
      refine lv_if_eq (tgt := 26) hx hb dX7_refusedRhythms_19 (by decide) (fun c => absurd (show (nI 1) = 0 from c) (by decide +kernel)) (fun _ => ?_)
      refine lv_iconst (v := (nI 0)) hx hb dX7_refusedRhythms_22 (by decide +kernel) ?_
      refine lv_goto (tgt := 28) hx hb dX7_refusedRhythms_23 (by decide) ?_
      exact g_iret (Qr := (q_x_refusedRhythms T o row le n0 s0 im iz rw t0 u0 h0 y0 sv ra0 rb0 rc0 rd0 rah raz ra1 ras raf rbh rbz rb1 rbs rbf rch rcz rc1 rcs rcf rdh rdz rd1 rds rdf nn nm nl no nu n1 n2 n3 n4 n5 n6 n7 n8 n9 n10)) hC V ⟨(Nat.le_of_ble_eq_true rfl), (Nat.le_of_ble_eq_true rfl)⟩ (.inl ⟨i, rfl, rfl, (by assumption), (by assumption), (by assumption), (by assumption), (by assumption)⟩) dX7_refusedRhythms_28
    · have V : gW D T A s [(o, .inr (7, [.ref n0, .ref s0, .ref im, .ref iz, .ref rw, .ref t0, .ref u0, .ref h0, .ref y0, sv])), (rw, .inl (T 5, 4, .inr (.inr (.inr (.inr (va_up (va_up (va_up (va_up (fun _ => none) 0 (some ra0)) 1 (some rb0)) 2 (some rc0)) 3 (some rd0))))))), (ra0, .inr (1, [.int rah, .int (nI raz), .ref ra1, .int (nI ras)])), (ra1, .inl (T 1, 40, .inr (.inl raf))), (rb0, .inr (1, [.int rbh, .int (nI rbz), .ref rb1, .int (nI rbs)])), (rb1, .inl (T 1, 40, .inr (.inl rbf))), (rc0, .inr (1, [.int rch, .int (nI rcz), .ref rc1, .int (nI rcs)])), (rc1, .inl (T 1, 40, .inr (.inl rcf))), (rd0, .inr (1, [.int rdh, .int (nI rdz), .ref rd1, .int (nI rds)])), (rd1, .inl (T 1, 40, .inr (.inl rdf))), (n0, .inr (5, [.int (nI nn), .int nm, .int nl, .int no, .int nu, .ref n1, .ref n2, .ref n3, .ref n4, .ref n5, .ref n6, .ref n7, .ref n8, .ref n9, .ref n10]))] H locs := V _ [] rfl rfl rfl (by decide +kernel) rfl
      show W p l e _ s m args below meth c H locs _ _ _ (F0 m 19 ls [.int (nI 0)])
      refine lv_if_eq (tgt := 26) hx hb dX7_refusedRhythms_19 (by decide) (fun _ => ?_) (fun c => absurd (show (nI 0) = 0 by decide +kernel) c)
      refine lv_bipush (v := (-3)) hx hb dX7_refusedRhythms_26 (by decide +kernel) ?_
      exact g_iret (Qr := (q_x_refusedRhythms T o row le n0 s0 im iz rw t0 u0 h0 y0 sv ra0 rb0 rc0 rd0 rah raz ra1 ras raf rbh rbz rb1 rbs rbf rch rcz rc1 rcs rcf rdh rdz rd1 rds rdf nn nm nl no nu n1 n2 n3 n4 n5 n6 n7 n8 n9 n10)) hC V ⟨(Nat.le_of_ble_eq_true rfl), (Nat.le_of_ble_eq_true rfl)⟩ (.inr ⟨(-3), rfl, rfl, (by decide +kernel)⟩) dX7_refusedRhythms_28
  · have V : gW D T A s [(o, .inr (7, [.ref n0, .ref s0, .ref im, .ref iz, .ref rw, .ref t0, .ref u0, .ref h0, .ref y0, sv])), (rw, .inl (T 5, 4, .inr (.inr (.inr (.inr (va_up (va_up (va_up (va_up (fun _ => none) 0 (some ra0)) 1 (some rb0)) 2 (some rc0)) 3 (some rd0))))))), (ra0, .inr (1, [.int rah, .int (nI raz), .ref ra1, .int (nI ras)])), (ra1, .inl (T 1, 40, .inr (.inl raf))), (rb0, .inr (1, [.int rbh, .int (nI rbz), .ref rb1, .int (nI rbs)])), (rb1, .inl (T 1, 40, .inr (.inl rbf))), (rc0, .inr (1, [.int rch, .int (nI rcz), .ref rc1, .int (nI rcs)])), (rc1, .inl (T 1, 40, .inr (.inl rcf))), (rd0, .inr (1, [.int rdh, .int (nI rdz), .ref rd1, .int (nI rds)])), (rd1, .inl (T 1, 40, .inr (.inl rdf))), (n0, .inr (5, [.int (nI nn), .int nm, .int nl, .int no, .int nu, .ref n1, .ref n2, .ref n3, .ref n4, .ref n5, .ref n6, .ref n7, .ref n8, .ref n9, .ref n10]))] H locs := V
    show W p l e _ s m args below meth c H locs _ _ _ (F0 m 5 ls [.int z_3])
    refine lv_istore_n (lv' := [(3, .int z_3), (0, .ref o), (1, .int row), (2, .int le)]) hx hb dX7_refusedRhythms_5 rfl hl (by decide) rfl (fun ls hl => ?_)
    refine lv_iload_n hx hb dX7_refusedRhythms_6 rfl (lv_at hl 0 rfl) ?_
    refine lv_if_eq (tgt := 12) hx hb dX7_refusedRhythms_7 (by decide) (fun c_8 => ?_) (fun c_8 => ?_)
    · skip
      exact (absurd c_8 (by assumption) : False).elim
    · skip
      refine lv_iload_n hx hb dX7_refusedRhythms_10 rfl (lv_at hl 0 rfl) ?_
      exact g_iret (Qr := (q_x_refusedRhythms T o row le n0 s0 im iz rw t0 u0 h0 y0 sv ra0 rb0 rc0 rd0 rah raz ra1 ras raf rbh rbz rb1 rbs rbf rch rcz rc1 rcs rcf rdh rdz rd1 rds rdf nn nm nl no nu n1 n2 n3 n4 n5 n6 n7 n8 n9 n10)) hC V ⟨(Nat.le_of_ble_eq_true rfl), (Nat.le_of_ble_eq_true rfl)⟩ (.inr ⟨z_3, rfl, rfl, (by first | assumption | omega)⟩) dX7_refusedRhythms_11

def q_x_holds (T : Nat → ClassId) (o : Nat) (row : Int32) (le : Int32) (wh : Int32) (n0 : Nat) (s0 : Nat) (im : Nat) (iz : Nat) (rw : Nat) (t0 : Nat) (u0 : Nat) (h0 : Nat) (y0 : Nat) (sv : Value) (ra0 : Nat) (rb0 : Nat) (rc0 : Nat) (rd0 : Nat) (rah : Int32) (raz : Nat) (ra1 : Nat) (ras : Nat) (raf : Nat → Int64) (rbh : Int32) (rbz : Nat) (rb1 : Nat) (rbs : Nat) (rbf : Nat → Int64) (rch : Int32) (rcz : Nat) (rc1 : Nat) (rcs : Nat) (rcf : Nat → Int64) (rdh : Int32) (rdz : Nat) (rd1 : Nat) (rds : Nat) (rdf : Nat → Int64) (h1 : Nat) (qx : Int32) (qy : Int32) (ql : Int32) (h2 : Nat) (h3 : Nat) (qb : Nat → Int32) (qp : Nat → Int32) (qc : Nat → Int32) (nn : Nat) (nm : Int32) (nl : Int32) (no : Int32) (nu : Int32) (n1 : Nat) (n2 : Nat) (n3 : Nat) (n4 : Nat) (n5 : Nat) (n6 : Nat) (n7 : Nat) (n8 : Nat) (n9 : Nat) (n10 : Nat) (nf1 : Nat → Int32) (nf2 : Nat → Int32) (nf3 : Nat → Int32) (nf4 : Nat → Int32) (nf5 : Nat → Int32) (nf9 : Nat → Int32) : Option Value → va_W → Prop := fun rr ww => (∃ (z : Int32) (x1 : Int32) (x2 : Int32) (x3 : Int32) (k1 : Nat → Int32) (k2 : Nat → Int32) (k3 : Nat → Int32), rr = some (.int z) ∧ ww = [(o, .inr (7, [.ref n0, .ref s0, .ref im, .ref iz, .ref rw, .ref t0, .ref u0, .ref h0, .ref y0, sv])), (rw, .inl (T 5, 4, .inr (.inr (.inr (.inr (va_up (va_up (va_up (va_up (fun _ => none) 0 (some ra0)) 1 (some rb0)) 2 (some rc0)) 3 (some rd0))))))), (ra0, .inr (1, [.int rah, .int (nI raz), .ref ra1, .int (nI ras)])), (ra1, .inl (T 1, 40, .inr (.inl raf))), (rb0, .inr (1, [.int rbh, .int (nI rbz), .ref rb1, .int (nI rbs)])), (rb1, .inl (T 1, 40, .inr (.inl rbf))), (rc0, .inr (1, [.int rch, .int (nI rcz), .ref rc1, .int (nI rcs)])), (rc1, .inl (T 1, 40, .inr (.inl rcf))), (rd0, .inr (1, [.int rdh, .int (nI rdz), .ref rd1, .int (nI rds)])), (rd1, .inl (T 1, 40, .inr (.inl rdf))), (h0, .inr (3, [.ref h1, .int x1, .int x2, .int x3, .ref h2, .ref h3])), (h1, .inl (T 0, 10, .inl k1)), (h2, .inl (T 0, 10, .inl k2)), (h3, .inl (T 0, 12, .inl k3)), (n0, .inr (5, [.int (nI nn), .int nm, .int nl, .int no, .int nu, .ref n1, .ref n2, .ref n3, .ref n4, .ref n5, .ref n6, .ref n7, .ref n8, .ref n9, .ref n10])), (n1, .inl (T 0, 10, .inl nf1)), (n2, .inl (T 0, 10, .inl nf2)), (n3, .inl (T 0, 10, .inl nf3)), (n4, .inl (T 0, 10, .inl nf4)), (n5, .inl (T 0, 10, .inl nf5)), (n9, .inl (T 0, 10, .inl nf9))])
set_option maxHeartbeats 4000000 in
set_option maxRecDepth 100000 in
theorem x_holds (l : Launch) (D : va_G) (T : Nat → ClassId) (o : Nat) (row : Int32) (le : Int32) (wh : Int32) (n0 : Nat) (s0 : Nat) (im : Nat) (iz : Nat) (rw : Nat) (t0 : Nat) (u0 : Nat) (h0 : Nat) (y0 : Nat) (sv : Value) (ra0 : Nat) (rb0 : Nat) (rc0 : Nat) (rd0 : Nat) (rah : Int32) (raz : Nat) (ra1 : Nat) (ras : Nat) (raf : Nat → Int64) (rbh : Int32) (rbz : Nat) (rb1 : Nat) (rbs : Nat) (rbf : Nat → Int64) (rch : Int32) (rcz : Nat) (rc1 : Nat) (rcs : Nat) (rcf : Nat → Int64) (rdh : Int32) (rdz : Nat) (rd1 : Nat) (rds : Nat) (rdf : Nat → Int64) (h1 : Nat) (qx : Int32) (qy : Int32) (ql : Int32) (h2 : Nat) (h3 : Nat) (qb : Nat → Int32) (qp : Nat → Int32) (qc : Nat → Int32) (nn : Nat) (nm : Int32) (nl : Int32) (no : Int32) (nu : Int32) (n1 : Nat) (n2 : Nat) (n3 : Nat) (n4 : Nat) (n5 : Nat) (n6 : Nat) (n7 : Nat) (n8 : Nat) (n9 : Nat) (n10 : Nat) (nf1 : Nat → Int32) (nf2 : Nat → Int32) (nf3 : Nat → Int32) (nf4 : Nat → Int32) (nf5 : Nat → Int32) (nf9 : Nat → Int32) (h_n : nn ≤ 10) (h_t : ∀ i, i < nn → bd (nf9 i) nn) (h_zra : raz ≤ 40) (h_zrb : rbz ≤ 40) (h_zrc : rcz ≤ 40) (h_zrd : rdz ≤ 40) (h_sra : ras ≤ 3) (h_srb : rbs ≤ 3) (h_src : rcs ≤ 3) (h_srd : rds ≤ 3) : Ct l yX7_holds cX7_holds 5 (some .int) 4 0 0 D T [.ref o, .int row, .int le, .int wh] [(o, .inr (7, [.ref n0, .ref s0, .ref im, .ref iz, .ref rw, .ref t0, .ref u0, .ref h0, .ref y0, sv])), (rw, .inl (T 5, 4, .inr (.inr (.inr (.inr (va_up (va_up (va_up (va_up (fun _ => none) 0 (some ra0)) 1 (some rb0)) 2 (some rc0)) 3 (some rd0))))))), (ra0, .inr (1, [.int rah, .int (nI raz), .ref ra1, .int (nI ras)])), (ra1, .inl (T 1, 40, .inr (.inl raf))), (rb0, .inr (1, [.int rbh, .int (nI rbz), .ref rb1, .int (nI rbs)])), (rb1, .inl (T 1, 40, .inr (.inl rbf))), (rc0, .inr (1, [.int rch, .int (nI rcz), .ref rc1, .int (nI rcs)])), (rc1, .inl (T 1, 40, .inr (.inl rcf))), (rd0, .inr (1, [.int rdh, .int (nI rdz), .ref rd1, .int (nI rds)])), (rd1, .inl (T 1, 40, .inr (.inl rdf))), (h0, .inr (3, [.ref h1, .int qx, .int qy, .int ql, .ref h2, .ref h3])), (h1, .inl (T 0, 10, .inl qb)), (h2, .inl (T 0, 10, .inl qp)), (h3, .inl (T 0, 12, .inl qc)), (n0, .inr (5, [.int (nI nn), .int nm, .int nl, .int no, .int nu, .ref n1, .ref n2, .ref n3, .ref n4, .ref n5, .ref n6, .ref n7, .ref n8, .ref n9, .ref n10])), (n1, .inl (T 0, 10, .inl nf1)), (n2, .inl (T 0, 10, .inl nf2)), (n3, .inl (T 0, 10, .inl nf3)), (n4, .inl (T 0, 10, .inl nf4)), (n5, .inl (T 0, 10, .inl nf5)), (n9, .inl (T 0, 10, .inl nf9))] (q_x_holds T o row le wh n0 s0 im iz rw t0 u0 h0 y0 sv ra0 rb0 rc0 rd0 rah raz ra1 ras raf rbh rbz rb1 rbs rbf rch rcz rc1 rcs rcf rdh rdz rd1 rds rdf h1 qx qy ql h2 h3 qb qp qc nn nm nl no nu n1 n2 n3 n4 n5 n6 n7 n8 n9 n10 nf1 nf2 nf3 nf4 nf5 nf9) := by
  refine Ct.of (cc := cX7_holds) (maxL := 5) (ret := (some .int)) (by decide) (Nat.le_of_ble_eq_true rfl) ?_
  intro p e s m args below meth c A ls hC hnm V hl
  obtain ⟨hx, hb, hr, hml, hown, hts, hlocks⟩ := id hC
  generalize hH : s.heap = H at V ⊢
  clear hH
  have hl : lv_has ls 5 [(0, .ref o), (1, .int row), (2, .int le), (3, .int wh)] := hl
  generalize hlo : ([] : List Loc) = locs at V ⊢
  clear hlo
  refine lv_iload_n hx hb dX7_holds_0 rfl (lv_at hl 1 rfl) ?_
  refine g_callSU (nA := 1) hC V hl.1 (c_isRow l D T row) w_501 w_502 w_2 w_503 (by decide +kernel) rfl ⟨(Nat.le_of_ble_eq_true rfl), (Nat.le_of_ble_eq_true rfl)⟩ [] rfl rfl (Nat.le_of_ble_eq_true rfl) dX7_holds_1 ⟨(Nat.le_of_ble_eq_true rfl), (Nat.le_of_ble_eq_true rfl)⟩ rfl (fun r w1 H locs hQ V => ?_)
  rcases hQ with ⟨rfl, rfl, f_1, f_2⟩ | ⟨rfl, rfl, f_3⟩
  · have V : gW D T A s [(o, .inr (7, [.ref n0, .ref s0, .ref im, .ref iz, .ref rw, .ref t0, .ref u0, .ref h0, .ref y0, sv])), (rw, .inl (T 5, 4, .inr (.inr (.inr (.inr (va_up (va_up (va_up (va_up (fun _ => none) 0 (some ra0)) 1 (some rb0)) 2 (some rc0)) 3 (some rd0))))))), (ra0, .inr (1, [.int rah, .int (nI raz), .ref ra1, .int (nI ras)])), (ra1, .inl (T 1, 40, .inr (.inl raf))), (rb0, .inr (1, [.int rbh, .int (nI rbz), .ref rb1, .int (nI rbs)])), (rb1, .inl (T 1, 40, .inr (.inl rbf))), (rc0, .inr (1, [.int rch, .int (nI rcz), .ref rc1, .int (nI rcs)])), (rc1, .inl (T 1, 40, .inr (.inl rcf))), (rd0, .inr (1, [.int rdh, .int (nI rdz), .ref rd1, .int (nI rds)])), (rd1, .inl (T 1, 40, .inr (.inl rdf))), (h0, .inr (3, [.ref h1, .int qx, .int qy, .int ql, .ref h2, .ref h3])), (h1, .inl (T 0, 10, .inl qb)), (h2, .inl (T 0, 10, .inl qp)), (h3, .inl (T 0, 12, .inl qc)), (n0, .inr (5, [.int (nI nn), .int nm, .int nl, .int no, .int nu, .ref n1, .ref n2, .ref n3, .ref n4, .ref n5, .ref n6, .ref n7, .ref n8, .ref n9, .ref n10])), (n1, .inl (T 0, 10, .inl nf1)), (n2, .inl (T 0, 10, .inl nf2)), (n3, .inl (T 0, 10, .inl nf3)), (n4, .inl (T 0, 10, .inl nf4)), (n5, .inl (T 0, 10, .inl nf5)), (n9, .inl (T 0, 10, .inl nf9))] H locs := V _ [] rfl rfl rfl (by decide +kernel) rfl
    show W p l e _ s m args below meth c H locs _ _ _ (F0 m 4 ls [.int (nI 1)])
    refine lv_if_eq (tgt := 16) hx hb dX7_holds_4 (by decide) (fun c => absurd (show (nI 1) = 0 from c) (by decide +kernel)) (fun _ => ?_)
    refine lv_iload_n hx hb dX7_holds_7 rfl (lv_at hl 3 rfl) ?_
    refine lv_iconst (v := (nI 0)) hx hb dX7_holds_8 (by decide +kernel) ?_
    refine lv_iconst (v := (nI 1)) hx hb dX7_holds_9 (by decide +kernel) ?_
    refine g_callSU (nA := 3) hC V hl.1 (c_isWithin l D T wh (nI 0) (nI 1)) w_292 w_293 w_2 w_294 (by decide +kernel) rfl ⟨(Nat.le_of_ble_eq_true rfl), (Nat.le_of_ble_eq_true rfl)⟩ [] rfl rfl (Nat.le_of_ble_eq_true rfl) dX7_holds_10 ⟨(Nat.le_of_ble_eq_true rfl), (Nat.le_of_ble_eq_true rfl)⟩ rfl (fun r w1 H locs hQ V => ?_)
    rcases hQ with ⟨rfl, rfl, f_4, f_5⟩ | ⟨rfl, rfl, f_6⟩
    · have V : gW D T A s [(o, .inr (7, [.ref n0, .ref s0, .ref im, .ref iz, .ref rw, .ref t0, .ref u0, .ref h0, .ref y0, sv])), (rw, .inl (T 5, 4, .inr (.inr (.inr (.inr (va_up (va_up (va_up (va_up (fun _ => none) 0 (some ra0)) 1 (some rb0)) 2 (some rc0)) 3 (some rd0))))))), (ra0, .inr (1, [.int rah, .int (nI raz), .ref ra1, .int (nI ras)])), (ra1, .inl (T 1, 40, .inr (.inl raf))), (rb0, .inr (1, [.int rbh, .int (nI rbz), .ref rb1, .int (nI rbs)])), (rb1, .inl (T 1, 40, .inr (.inl rbf))), (rc0, .inr (1, [.int rch, .int (nI rcz), .ref rc1, .int (nI rcs)])), (rc1, .inl (T 1, 40, .inr (.inl rcf))), (rd0, .inr (1, [.int rdh, .int (nI rdz), .ref rd1, .int (nI rds)])), (rd1, .inl (T 1, 40, .inr (.inl rdf))), (h0, .inr (3, [.ref h1, .int qx, .int qy, .int ql, .ref h2, .ref h3])), (h1, .inl (T 0, 10, .inl qb)), (h2, .inl (T 0, 10, .inl qp)), (h3, .inl (T 0, 12, .inl qc)), (n0, .inr (5, [.int (nI nn), .int nm, .int nl, .int no, .int nu, .ref n1, .ref n2, .ref n3, .ref n4, .ref n5, .ref n6, .ref n7, .ref n8, .ref n9, .ref n10])), (n1, .inl (T 0, 10, .inl nf1)), (n2, .inl (T 0, 10, .inl nf2)), (n3, .inl (T 0, 10, .inl nf3)), (n4, .inl (T 0, 10, .inl nf4)), (n5, .inl (T 0, 10, .inl nf5)), (n9, .inl (T 0, 10, .inl nf9))] H locs := V _ [] rfl rfl rfl (by decide +kernel) rfl
      show W p l e _ s m args below meth c H locs _ _ _ (F0 m 13 ls [.int (nI 1)])
      refine lv_if_ne (tgt := 19) hx hb dX7_holds_13 (by decide) (fun _ => ?_) (fun c => absurd (show (nI 1) = 0 from c) (by decide +kernel))
      refine lv_aload_n hx hb dX7_holds_19 rfl (lv_at hl 0 rfl) ?_
      refine lv_iload_n hx hb dX7_holds_20 rfl (lv_at hl 1 rfl) ?_
      refine lv_iload_n hx hb dX7_holds_21 rfl (lv_at hl 2 rfl) ?_
      refine g_callVU (nA := 2) hC V hl.1 (x_refusedRhythms l D T o row le n0 s0 im iz rw t0 u0 h0 y0 sv ra0 rb0 rc0 rd0 rah raz ra1 ras raf rbh rbz rb1 rbs rbf rch rcz rc1 rcs rcf rdh rdz rd1 rds rdf nn nm nl no nu n1 n2 n3 n4 n5 n6 n7 n8 n9 n10 (by first | assumption | omega) (by first | assumption | omega) (by first | assumption | omega) (by first | assumption | omega) (by first | assumption | omega) (by first | assumption | omega) (by first | assumption | omega) (by first | assumption | omega) (by first | assumption | omega)) w_594 w_596 w_s15 w_2 w_597 (by decide +kernel) rfl ⟨(Nat.le_of_ble_eq_true rfl), (Nat.le_of_ble_eq_true rfl)⟩ 0 (ci := 7) rfl rfl [0, 1, 2, 3, 4, 5, 6, 7, 8, 9, 14] rfl rfl (Nat.le_of_ble_eq_true rfl) dX7_holds_22 ⟨(Nat.le_of_ble_eq_true rfl), (Nat.le_of_ble_eq_true rfl)⟩ rfl (fun r w1 H locs hQ V => ?_)
      rcases hQ with ⟨j_7, rfl, rfl, f_8, f_9, f_10, f_11, f_12⟩ | ⟨z_13, rfl, rfl, f_14⟩
      · have V : gW D T A s [(o, .inr (7, [.ref n0, .ref s0, .ref im, .ref iz, .ref rw, .ref t0, .ref u0, .ref h0, .ref y0, sv])), (rw, .inl (T 5, 4, .inr (.inr (.inr (.inr (va_up (va_up (va_up (va_up (fun _ => none) 0 (some ra0)) 1 (some rb0)) 2 (some rc0)) 3 (some rd0))))))), (ra0, .inr (1, [.int rah, .int (nI raz), .ref ra1, .int (nI ras)])), (ra1, .inl (T 1, 40, .inr (.inl raf))), (rb0, .inr (1, [.int rbh, .int (nI rbz), .ref rb1, .int (nI rbs)])), (rb1, .inl (T 1, 40, .inr (.inl rbf))), (rc0, .inr (1, [.int rch, .int (nI rcz), .ref rc1, .int (nI rcs)])), (rc1, .inl (T 1, 40, .inr (.inl rcf))), (rd0, .inr (1, [.int rdh, .int (nI rdz), .ref rd1, .int (nI rds)])), (rd1, .inl (T 1, 40, .inr (.inl rdf))), (h0, .inr (3, [.ref h1, .int qx, .int qy, .int ql, .ref h2, .ref h3])), (h1, .inl (T 0, 10, .inl qb)), (h2, .inl (T 0, 10, .inl qp)), (h3, .inl (T 0, 12, .inl qc)), (n0, .inr (5, [.int (nI nn), .int nm, .int nl, .int no, .int nu, .ref n1, .ref n2, .ref n3, .ref n4, .ref n5, .ref n6, .ref n7, .ref n8, .ref n9, .ref n10])), (n1, .inl (T 0, 10, .inl nf1)), (n2, .inl (T 0, 10, .inl nf2)), (n3, .inl (T 0, 10, .inl nf3)), (n4, .inl (T 0, 10, .inl nf4)), (n5, .inl (T 0, 10, .inl nf5)), (n9, .inl (T 0, 10, .inl nf9))] H locs := V _ [0, 0, 0, 0, 0, 0, 0, 0, 0, 0, 4] rfl rfl rfl (by decide +kernel) rfl
        show W p l e _ s m args below meth c H locs _ _ _ (F0 m 25 ls [.int (nI 0)])
        rw [f_12] at hl
        obtain ⟨j_15, hj_15, ej_15⟩ := g_idx (n := 4) (by decide) f_8 f_9
        rw [ej_15] at hl
        have hj_15 : j_15 = 0 ∨ j_15 = 1 ∨ j_15 = 2 ∨ j_15 = 3 := by omega
        rcases hj_15 with rfl | rfl | rfl | rfl
        · skip
          refine lv_istore (lv' := [(4, .int (nI 0)), (0, .ref o), (1, .int (nI 0)), (2, .int (nI j_7)), (3, .int wh)]) hx hb dX7_holds_25 hl (by decide) rfl (fun ls hl => ?_)
          refine lv_iload hx hb dX7_holds_27 (lv_at hl 0 rfl) ?_
          refine lv_if_eq (tgt := 35) hx hb dX7_holds_29 (by decide) (fun _ => ?_) (fun c => absurd (show (nI 0) = 0 by decide +kernel) c)
          refine lv_aload_n hx hb dX7_holds_35 rfl (lv_at hl 1 rfl) ?_
          refine g_get hC V (ci := 7) uwX7 0 rfl rfl 7 (by decide) w_256 rfl rfl dX7_holds_36 ?_
          refine lv_aload_n hx hb dX7_holds_39 rfl (lv_at hl 1 rfl) ?_
          refine g_get hC V (ci := 7) uwX7 0 rfl rfl 4 (by decide) w_253 rfl rfl dX7_holds_40 ?_
          refine lv_iload_n hx hb dX7_holds_43 rfl (lv_at hl 2 rfl) ?_
          refine g_aald hC V 1 5 rfl rfl (vp_in_nI (by decide) (by decide)) (v := .ref ra0) (by rw [nI_clamp (by decide)]; rfl) dX7_holds_44 ?_
          refine lv_iload_n hx hb dX7_holds_45 rfl (lv_at hl 3 rfl) ?_
          refine g_callVU (nA := 2) hC V hl.1 (h_takeRow l D T h0 ra0 j_7 h1 qx qy ql h2 h3 qp rah raz ra1 ras raf) w_602 w_603 w_604 w_6 w_605 (by decide +kernel) rfl ⟨(Nat.le_of_ble_eq_true rfl), (Nat.le_of_ble_eq_true rfl)⟩ 10 (ci := 3) rfl rfl [10, 12, 2, 3] rfl rfl (Nat.le_of_ble_eq_true rfl) dX7_holds_46 ⟨(Nat.le_of_ble_eq_true rfl), (Nat.le_of_ble_eq_true rfl)⟩ rfl (fun r w1 H locs hQ V => ?_)
          obtain ⟨g_16, rfl, rfl⟩ := hQ
          have V : gW D T A s [(o, .inr (7, [.ref n0, .ref s0, .ref im, .ref iz, .ref rw, .ref t0, .ref u0, .ref h0, .ref y0, sv])), (rw, .inl (T 5, 4, .inr (.inr (.inr (.inr (va_up (va_up (va_up (va_up (fun _ => none) 0 (some ra0)) 1 (some rb0)) 2 (some rc0)) 3 (some rd0))))))), (ra0, .inr (1, [.int rah, .int (nI raz), .ref ra1, .int (nI ras)])), (ra1, .inl (T 1, 40, .inr (.inl raf))), (rb0, .inr (1, [.int rbh, .int (nI rbz), .ref rb1, .int (nI rbs)])), (rb1, .inl (T 1, 40, .inr (.inl rbf))), (rc0, .inr (1, [.int rch, .int (nI rcz), .ref rc1, .int (nI rcs)])), (rc1, .inl (T 1, 40, .inr (.inl rcf))), (rd0, .inr (1, [.int rdh, .int (nI rdz), .ref rd1, .int (nI rds)])), (rd1, .inl (T 1, 40, .inr (.inl rdf))), (h0, .inr (3, [.ref h1, .int qx, .int qy, .int (nI j_7), .ref h2, .ref h3])), (h1, .inl (T 0, 10, .inl qb)), (h2, .inl (T 0, 10, .inl g_16)), (h3, .inl (T 0, 12, .inl qc)), (n0, .inr (5, [.int (nI nn), .int nm, .int nl, .int no, .int nu, .ref n1, .ref n2, .ref n3, .ref n4, .ref n5, .ref n6, .ref n7, .ref n8, .ref n9, .ref n10])), (n1, .inl (T 0, 10, .inl nf1)), (n2, .inl (T 0, 10, .inl nf2)), (n3, .inl (T 0, 10, .inl nf3)), (n4, .inl (T 0, 10, .inl nf4)), (n5, .inl (T 0, 10, .inl nf5)), (n9, .inl (T 0, 10, .inl nf9))] H locs := V _ [2, 0, 6, 1] rfl rfl rfl (by decide +kernel) rfl
          show W p l e _ s m args below meth c H locs _ _ _ (F0 m 49 ls [])
          refine lv_aload_n hx hb dX7_holds_49 rfl (lv_at hl 1 rfl) ?_
          refine g_get hC V (ci := 7) uwX7 0 rfl rfl 7 (by decide) w_256 rfl rfl dX7_holds_50 ?_
          refine lv_aload_n hx hb dX7_holds_53 rfl (lv_at hl 1 rfl) ?_
          refine g_get hC V (ci := 7) uwX7 0 rfl rfl 0 (by decide) w_249 rfl rfl dX7_holds_54 ?_
          refine g_callVU (nA := 1) hC V hl.1 (h_judgeOn l D T h0 n0 h1 qx qy j_7 h2 h3 g_16 qc nn nm nl no nu n1 n2 n3 n4 n5 n6 n7 n8 n9 n10 nf1 nf2 nf3 nf4 nf5 nf9 (by first | assumption | omega) ⟨by omega, by omega⟩) w_610 w_611 w_612 w_6 w_613 (by decide +kernel) rfl ⟨(Nat.le_of_ble_eq_true rfl), (Nat.le_of_ble_eq_true rfl)⟩ 10 (ci := 3) rfl rfl [10, 12, 13, 14, 15, 16, 17, 18, 19, 20] rfl rfl (Nat.le_of_ble_eq_true rfl) dX7_holds_57 ⟨(Nat.le_of_ble_eq_true rfl), (Nat.le_of_ble_eq_true rfl)⟩ rfl (fun r w1 H locs hQ V => ?_)
          obtain ⟨x1_17, x2_18, g_19, rfl, rfl⟩ := hQ
          have V : gW D T A s [(o, .inr (7, [.ref n0, .ref s0, .ref im, .ref iz, .ref rw, .ref t0, .ref u0, .ref h0, .ref y0, sv])), (rw, .inl (T 5, 4, .inr (.inr (.inr (.inr (va_up (va_up (va_up (va_up (fun _ => none) 0 (some ra0)) 1 (some rb0)) 2 (some rc0)) 3 (some rd0))))))), (ra0, .inr (1, [.int rah, .int (nI raz), .ref ra1, .int (nI ras)])), (ra1, .inl (T 1, 40, .inr (.inl raf))), (rb0, .inr (1, [.int rbh, .int (nI rbz), .ref rb1, .int (nI rbs)])), (rb1, .inl (T 1, 40, .inr (.inl rbf))), (rc0, .inr (1, [.int rch, .int (nI rcz), .ref rc1, .int (nI rcs)])), (rc1, .inl (T 1, 40, .inr (.inl rcf))), (rd0, .inr (1, [.int rdh, .int (nI rdz), .ref rd1, .int (nI rds)])), (rd1, .inl (T 1, 40, .inr (.inl rdf))), (h0, .inr (3, [.ref h1, .int x1_17, .int x2_18, .int (nI j_7), .ref h2, .ref h3])), (h1, .inl (T 0, 10, .inl qb)), (h2, .inl (T 0, 10, .inl g_16)), (h3, .inl (T 0, 12, .inl g_19)), (n0, .inr (5, [.int (nI nn), .int nm, .int nl, .int no, .int nu, .ref n1, .ref n2, .ref n3, .ref n4, .ref n5, .ref n6, .ref n7, .ref n8, .ref n9, .ref n10])), (n1, .inl (T 0, 10, .inl nf1)), (n2, .inl (T 0, 10, .inl nf2)), (n3, .inl (T 0, 10, .inl nf3)), (n4, .inl (T 0, 10, .inl nf4)), (n5, .inl (T 0, 10, .inl nf5)), (n9, .inl (T 0, 10, .inl nf9))] H locs := V _ [10, 1, 0, 0, 0, 0, 0, 0, 0, 0] rfl rfl rfl (by decide +kernel) rfl
          show W p l e _ s m args below meth c H locs _ _ _ (F0 m 60 ls [])
          refine lv_iload_n hx hb dX7_holds_60 rfl (lv_at hl 4 rfl) ?_
          refine lv_if_ne (tgt := 74) hx hb dX7_holds_61 (by decide) (fun c_20 => ?_) (fun c_20 => ?_)
          · skip
            refine lv_aload_n hx hb dX7_holds_74 rfl (lv_at hl 1 rfl) ?_
            refine g_get hC V (ci := 7) uwX7 0 rfl rfl 7 (by decide) w_256 rfl rfl dX7_holds_75 ?_
            refine g_get hC V (ci := 3) uwX3 10 rfl rfl 2 (by decide) w_188 rfl rfl dX7_holds_78 ?_
            exact g_iret (Qr := (q_x_holds T o row le wh n0 s0 im iz rw t0 u0 h0 y0 sv ra0 rb0 rc0 rd0 rah raz ra1 ras raf rbh rbz rb1 rbs rbf rch rcz rc1 rcs rcf rdh rdz rd1 rds rdf h1 qx qy ql h2 h3 qb qp qc nn nm nl no nu n1 n2 n3 n4 n5 n6 n7 n8 n9 n10 nf1 nf2 nf3 nf4 nf5 nf9)) hC V ⟨(Nat.le_of_ble_eq_true rfl), (Nat.le_of_ble_eq_true rfl)⟩ ⟨x2_18, x1_17, x2_18, (nI j_7), qb, g_16, g_19, rfl, rfl⟩ dX7_holds_81
          · skip
            refine lv_aload_n hx hb dX7_holds_64 rfl (lv_at hl 1 rfl) ?_
            refine g_get hC V (ci := 7) uwX7 0 rfl rfl 7 (by decide) w_256 rfl rfl dX7_holds_65 ?_
            refine g_get hC V (ci := 3) uwX3 10 rfl rfl 1 (by decide) w_186 rfl rfl dX7_holds_68 ?_
            refine lv_goto (tgt := 81) hx hb dX7_holds_71 (by decide) ?_
            exact g_iret (Qr := (q_x_holds T o row le wh n0 s0 im iz rw t0 u0 h0 y0 sv ra0 rb0 rc0 rd0 rah raz ra1 ras raf rbh rbz rb1 rbs rbf rch rcz rc1 rcs rcf rdh rdz rd1 rds rdf h1 qx qy ql h2 h3 qb qp qc nn nm nl no nu n1 n2 n3 n4 n5 n6 n7 n8 n9 n10 nf1 nf2 nf3 nf4 nf5 nf9)) hC V ⟨(Nat.le_of_ble_eq_true rfl), (Nat.le_of_ble_eq_true rfl)⟩ ⟨x1_17, x1_17, x2_18, (nI j_7), qb, g_16, g_19, rfl, rfl⟩ dX7_holds_81
        · skip
          refine lv_istore (lv' := [(4, .int (nI 0)), (0, .ref o), (1, .int (nI 1)), (2, .int (nI j_7)), (3, .int wh)]) hx hb dX7_holds_25 hl (by decide) rfl (fun ls hl => ?_)
          refine lv_iload hx hb dX7_holds_27 (lv_at hl 0 rfl) ?_
          refine lv_if_eq (tgt := 35) hx hb dX7_holds_29 (by decide) (fun _ => ?_) (fun c => absurd (show (nI 0) = 0 by decide +kernel) c)
          refine lv_aload_n hx hb dX7_holds_35 rfl (lv_at hl 1 rfl) ?_
          refine g_get hC V (ci := 7) uwX7 0 rfl rfl 7 (by decide) w_256 rfl rfl dX7_holds_36 ?_
          refine lv_aload_n hx hb dX7_holds_39 rfl (lv_at hl 1 rfl) ?_
          refine g_get hC V (ci := 7) uwX7 0 rfl rfl 4 (by decide) w_253 rfl rfl dX7_holds_40 ?_
          refine lv_iload_n hx hb dX7_holds_43 rfl (lv_at hl 2 rfl) ?_
          refine g_aald hC V 1 5 rfl rfl (vp_in_nI (by decide) (by decide)) (v := .ref rb0) (by rw [nI_clamp (by decide)]; rfl) dX7_holds_44 ?_
          refine lv_iload_n hx hb dX7_holds_45 rfl (lv_at hl 3 rfl) ?_
          refine g_callVU (nA := 2) hC V hl.1 (h_takeRow l D T h0 rb0 j_7 h1 qx qy ql h2 h3 qp rbh rbz rb1 rbs rbf) w_602 w_603 w_604 w_6 w_605 (by decide +kernel) rfl ⟨(Nat.le_of_ble_eq_true rfl), (Nat.le_of_ble_eq_true rfl)⟩ 10 (ci := 3) rfl rfl [10, 12, 4, 5] rfl rfl (Nat.le_of_ble_eq_true rfl) dX7_holds_46 ⟨(Nat.le_of_ble_eq_true rfl), (Nat.le_of_ble_eq_true rfl)⟩ rfl (fun r w1 H locs hQ V => ?_)
          obtain ⟨g_21, rfl, rfl⟩ := hQ
          have V : gW D T A s [(o, .inr (7, [.ref n0, .ref s0, .ref im, .ref iz, .ref rw, .ref t0, .ref u0, .ref h0, .ref y0, sv])), (rw, .inl (T 5, 4, .inr (.inr (.inr (.inr (va_up (va_up (va_up (va_up (fun _ => none) 0 (some ra0)) 1 (some rb0)) 2 (some rc0)) 3 (some rd0))))))), (ra0, .inr (1, [.int rah, .int (nI raz), .ref ra1, .int (nI ras)])), (ra1, .inl (T 1, 40, .inr (.inl raf))), (rb0, .inr (1, [.int rbh, .int (nI rbz), .ref rb1, .int (nI rbs)])), (rb1, .inl (T 1, 40, .inr (.inl rbf))), (rc0, .inr (1, [.int rch, .int (nI rcz), .ref rc1, .int (nI rcs)])), (rc1, .inl (T 1, 40, .inr (.inl rcf))), (rd0, .inr (1, [.int rdh, .int (nI rdz), .ref rd1, .int (nI rds)])), (rd1, .inl (T 1, 40, .inr (.inl rdf))), (h0, .inr (3, [.ref h1, .int qx, .int qy, .int (nI j_7), .ref h2, .ref h3])), (h1, .inl (T 0, 10, .inl qb)), (h2, .inl (T 0, 10, .inl g_21)), (h3, .inl (T 0, 12, .inl qc)), (n0, .inr (5, [.int (nI nn), .int nm, .int nl, .int no, .int nu, .ref n1, .ref n2, .ref n3, .ref n4, .ref n5, .ref n6, .ref n7, .ref n8, .ref n9, .ref n10])), (n1, .inl (T 0, 10, .inl nf1)), (n2, .inl (T 0, 10, .inl nf2)), (n3, .inl (T 0, 10, .inl nf3)), (n4, .inl (T 0, 10, .inl nf4)), (n5, .inl (T 0, 10, .inl nf5)), (n9, .inl (T 0, 10, .inl nf9))] H locs := V _ [4, 0, 4, 1] rfl rfl rfl (by decide +kernel) rfl
          show W p l e _ s m args below meth c H locs _ _ _ (F0 m 49 ls [])
          refine lv_aload_n hx hb dX7_holds_49 rfl (lv_at hl 1 rfl) ?_
          refine g_get hC V (ci := 7) uwX7 0 rfl rfl 7 (by decide) w_256 rfl rfl dX7_holds_50 ?_
          refine lv_aload_n hx hb dX7_holds_53 rfl (lv_at hl 1 rfl) ?_
          refine g_get hC V (ci := 7) uwX7 0 rfl rfl 0 (by decide) w_249 rfl rfl dX7_holds_54 ?_
          refine g_callVU (nA := 1) hC V hl.1 (h_judgeOn l D T h0 n0 h1 qx qy j_7 h2 h3 g_21 qc nn nm nl no nu n1 n2 n3 n4 n5 n6 n7 n8 n9 n10 nf1 nf2 nf3 nf4 nf5 nf9 (by first | assumption | omega) ⟨by omega, by omega⟩) w_610 w_611 w_612 w_6 w_613 (by decide +kernel) rfl ⟨(Nat.le_of_ble_eq_true rfl), (Nat.le_of_ble_eq_true rfl)⟩ 10 (ci := 3) rfl rfl [10, 12, 13, 14, 15, 16, 17, 18, 19, 20] rfl rfl (Nat.le_of_ble_eq_true rfl) dX7_holds_57 ⟨(Nat.le_of_ble_eq_true rfl), (Nat.le_of_ble_eq_true rfl)⟩ rfl (fun r w1 H locs hQ V => ?_)
          obtain ⟨x1_22, x2_23, g_24, rfl, rfl⟩ := hQ
          have V : gW D T A s [(o, .inr (7, [.ref n0, .ref s0, .ref im, .ref iz, .ref rw, .ref t0, .ref u0, .ref h0, .ref y0, sv])), (rw, .inl (T 5, 4, .inr (.inr (.inr (.inr (va_up (va_up (va_up (va_up (fun _ => none) 0 (some ra0)) 1 (some rb0)) 2 (some rc0)) 3 (some rd0))))))), (ra0, .inr (1, [.int rah, .int (nI raz), .ref ra1, .int (nI ras)])), (ra1, .inl (T 1, 40, .inr (.inl raf))), (rb0, .inr (1, [.int rbh, .int (nI rbz), .ref rb1, .int (nI rbs)])), (rb1, .inl (T 1, 40, .inr (.inl rbf))), (rc0, .inr (1, [.int rch, .int (nI rcz), .ref rc1, .int (nI rcs)])), (rc1, .inl (T 1, 40, .inr (.inl rcf))), (rd0, .inr (1, [.int rdh, .int (nI rdz), .ref rd1, .int (nI rds)])), (rd1, .inl (T 1, 40, .inr (.inl rdf))), (h0, .inr (3, [.ref h1, .int x1_22, .int x2_23, .int (nI j_7), .ref h2, .ref h3])), (h1, .inl (T 0, 10, .inl qb)), (h2, .inl (T 0, 10, .inl g_21)), (h3, .inl (T 0, 12, .inl g_24)), (n0, .inr (5, [.int (nI nn), .int nm, .int nl, .int no, .int nu, .ref n1, .ref n2, .ref n3, .ref n4, .ref n5, .ref n6, .ref n7, .ref n8, .ref n9, .ref n10])), (n1, .inl (T 0, 10, .inl nf1)), (n2, .inl (T 0, 10, .inl nf2)), (n3, .inl (T 0, 10, .inl nf3)), (n4, .inl (T 0, 10, .inl nf4)), (n5, .inl (T 0, 10, .inl nf5)), (n9, .inl (T 0, 10, .inl nf9))] H locs := V _ [10, 1, 0, 0, 0, 0, 0, 0, 0, 0] rfl rfl rfl (by decide +kernel) rfl
          show W p l e _ s m args below meth c H locs _ _ _ (F0 m 60 ls [])
          refine lv_iload_n hx hb dX7_holds_60 rfl (lv_at hl 4 rfl) ?_
          refine lv_if_ne (tgt := 74) hx hb dX7_holds_61 (by decide) (fun c_25 => ?_) (fun c_25 => ?_)
          · skip
            refine lv_aload_n hx hb dX7_holds_74 rfl (lv_at hl 1 rfl) ?_
            refine g_get hC V (ci := 7) uwX7 0 rfl rfl 7 (by decide) w_256 rfl rfl dX7_holds_75 ?_
            refine g_get hC V (ci := 3) uwX3 10 rfl rfl 2 (by decide) w_188 rfl rfl dX7_holds_78 ?_
            exact g_iret (Qr := (q_x_holds T o row le wh n0 s0 im iz rw t0 u0 h0 y0 sv ra0 rb0 rc0 rd0 rah raz ra1 ras raf rbh rbz rb1 rbs rbf rch rcz rc1 rcs rcf rdh rdz rd1 rds rdf h1 qx qy ql h2 h3 qb qp qc nn nm nl no nu n1 n2 n3 n4 n5 n6 n7 n8 n9 n10 nf1 nf2 nf3 nf4 nf5 nf9)) hC V ⟨(Nat.le_of_ble_eq_true rfl), (Nat.le_of_ble_eq_true rfl)⟩ ⟨x2_23, x1_22, x2_23, (nI j_7), qb, g_21, g_24, rfl, rfl⟩ dX7_holds_81
          · skip
            refine lv_aload_n hx hb dX7_holds_64 rfl (lv_at hl 1 rfl) ?_
            refine g_get hC V (ci := 7) uwX7 0 rfl rfl 7 (by decide) w_256 rfl rfl dX7_holds_65 ?_
            refine g_get hC V (ci := 3) uwX3 10 rfl rfl 1 (by decide) w_186 rfl rfl dX7_holds_68 ?_
            refine lv_goto (tgt := 81) hx hb dX7_holds_71 (by decide) ?_
            exact g_iret (Qr := (q_x_holds T o row le wh n0 s0 im iz rw t0 u0 h0 y0 sv ra0 rb0 rc0 rd0 rah raz ra1 ras raf rbh rbz rb1 rbs rbf rch rcz rc1 rcs rcf rdh rdz rd1 rds rdf h1 qx qy ql h2 h3 qb qp qc nn nm nl no nu n1 n2 n3 n4 n5 n6 n7 n8 n9 n10 nf1 nf2 nf3 nf4 nf5 nf9)) hC V ⟨(Nat.le_of_ble_eq_true rfl), (Nat.le_of_ble_eq_true rfl)⟩ ⟨x1_22, x1_22, x2_23, (nI j_7), qb, g_21, g_24, rfl, rfl⟩ dX7_holds_81
        · skip
          refine lv_istore (lv' := [(4, .int (nI 0)), (0, .ref o), (1, .int (nI 2)), (2, .int (nI j_7)), (3, .int wh)]) hx hb dX7_holds_25 hl (by decide) rfl (fun ls hl => ?_)
          refine lv_iload hx hb dX7_holds_27 (lv_at hl 0 rfl) ?_
          refine lv_if_eq (tgt := 35) hx hb dX7_holds_29 (by decide) (fun _ => ?_) (fun c => absurd (show (nI 0) = 0 by decide +kernel) c)
          refine lv_aload_n hx hb dX7_holds_35 rfl (lv_at hl 1 rfl) ?_
          refine g_get hC V (ci := 7) uwX7 0 rfl rfl 7 (by decide) w_256 rfl rfl dX7_holds_36 ?_
          refine lv_aload_n hx hb dX7_holds_39 rfl (lv_at hl 1 rfl) ?_
          refine g_get hC V (ci := 7) uwX7 0 rfl rfl 4 (by decide) w_253 rfl rfl dX7_holds_40 ?_
          refine lv_iload_n hx hb dX7_holds_43 rfl (lv_at hl 2 rfl) ?_
          refine g_aald hC V 1 5 rfl rfl (vp_in_nI (by decide) (by decide)) (v := .ref rc0) (by rw [nI_clamp (by decide)]; rfl) dX7_holds_44 ?_
          refine lv_iload_n hx hb dX7_holds_45 rfl (lv_at hl 3 rfl) ?_
          refine g_callVU (nA := 2) hC V hl.1 (h_takeRow l D T h0 rc0 j_7 h1 qx qy ql h2 h3 qp rch rcz rc1 rcs rcf) w_602 w_603 w_604 w_6 w_605 (by decide +kernel) rfl ⟨(Nat.le_of_ble_eq_true rfl), (Nat.le_of_ble_eq_true rfl)⟩ 10 (ci := 3) rfl rfl [10, 12, 6, 7] rfl rfl (Nat.le_of_ble_eq_true rfl) dX7_holds_46 ⟨(Nat.le_of_ble_eq_true rfl), (Nat.le_of_ble_eq_true rfl)⟩ rfl (fun r w1 H locs hQ V => ?_)
          obtain ⟨g_26, rfl, rfl⟩ := hQ
          have V : gW D T A s [(o, .inr (7, [.ref n0, .ref s0, .ref im, .ref iz, .ref rw, .ref t0, .ref u0, .ref h0, .ref y0, sv])), (rw, .inl (T 5, 4, .inr (.inr (.inr (.inr (va_up (va_up (va_up (va_up (fun _ => none) 0 (some ra0)) 1 (some rb0)) 2 (some rc0)) 3 (some rd0))))))), (ra0, .inr (1, [.int rah, .int (nI raz), .ref ra1, .int (nI ras)])), (ra1, .inl (T 1, 40, .inr (.inl raf))), (rb0, .inr (1, [.int rbh, .int (nI rbz), .ref rb1, .int (nI rbs)])), (rb1, .inl (T 1, 40, .inr (.inl rbf))), (rc0, .inr (1, [.int rch, .int (nI rcz), .ref rc1, .int (nI rcs)])), (rc1, .inl (T 1, 40, .inr (.inl rcf))), (rd0, .inr (1, [.int rdh, .int (nI rdz), .ref rd1, .int (nI rds)])), (rd1, .inl (T 1, 40, .inr (.inl rdf))), (h0, .inr (3, [.ref h1, .int qx, .int qy, .int (nI j_7), .ref h2, .ref h3])), (h1, .inl (T 0, 10, .inl qb)), (h2, .inl (T 0, 10, .inl g_26)), (h3, .inl (T 0, 12, .inl qc)), (n0, .inr (5, [.int (nI nn), .int nm, .int nl, .int no, .int nu, .ref n1, .ref n2, .ref n3, .ref n4, .ref n5, .ref n6, .ref n7, .ref n8, .ref n9, .ref n10])), (n1, .inl (T 0, 10, .inl nf1)), (n2, .inl (T 0, 10, .inl nf2)), (n3, .inl (T 0, 10, .inl nf3)), (n4, .inl (T 0, 10, .inl nf4)), (n5, .inl (T 0, 10, .inl nf5)), (n9, .inl (T 0, 10, .inl nf9))] H locs := V _ [6, 0, 2, 1] rfl rfl rfl (by decide +kernel) rfl
          show W p l e _ s m args below meth c H locs _ _ _ (F0 m 49 ls [])
          refine lv_aload_n hx hb dX7_holds_49 rfl (lv_at hl 1 rfl) ?_
          refine g_get hC V (ci := 7) uwX7 0 rfl rfl 7 (by decide) w_256 rfl rfl dX7_holds_50 ?_
          refine lv_aload_n hx hb dX7_holds_53 rfl (lv_at hl 1 rfl) ?_
          refine g_get hC V (ci := 7) uwX7 0 rfl rfl 0 (by decide) w_249 rfl rfl dX7_holds_54 ?_
          refine g_callVU (nA := 1) hC V hl.1 (h_judgeOn l D T h0 n0 h1 qx qy j_7 h2 h3 g_26 qc nn nm nl no nu n1 n2 n3 n4 n5 n6 n7 n8 n9 n10 nf1 nf2 nf3 nf4 nf5 nf9 (by first | assumption | omega) ⟨by omega, by omega⟩) w_610 w_611 w_612 w_6 w_613 (by decide +kernel) rfl ⟨(Nat.le_of_ble_eq_true rfl), (Nat.le_of_ble_eq_true rfl)⟩ 10 (ci := 3) rfl rfl [10, 12, 13, 14, 15, 16, 17, 18, 19, 20] rfl rfl (Nat.le_of_ble_eq_true rfl) dX7_holds_57 ⟨(Nat.le_of_ble_eq_true rfl), (Nat.le_of_ble_eq_true rfl)⟩ rfl (fun r w1 H locs hQ V => ?_)
          obtain ⟨x1_27, x2_28, g_29, rfl, rfl⟩ := hQ
          have V : gW D T A s [(o, .inr (7, [.ref n0, .ref s0, .ref im, .ref iz, .ref rw, .ref t0, .ref u0, .ref h0, .ref y0, sv])), (rw, .inl (T 5, 4, .inr (.inr (.inr (.inr (va_up (va_up (va_up (va_up (fun _ => none) 0 (some ra0)) 1 (some rb0)) 2 (some rc0)) 3 (some rd0))))))), (ra0, .inr (1, [.int rah, .int (nI raz), .ref ra1, .int (nI ras)])), (ra1, .inl (T 1, 40, .inr (.inl raf))), (rb0, .inr (1, [.int rbh, .int (nI rbz), .ref rb1, .int (nI rbs)])), (rb1, .inl (T 1, 40, .inr (.inl rbf))), (rc0, .inr (1, [.int rch, .int (nI rcz), .ref rc1, .int (nI rcs)])), (rc1, .inl (T 1, 40, .inr (.inl rcf))), (rd0, .inr (1, [.int rdh, .int (nI rdz), .ref rd1, .int (nI rds)])), (rd1, .inl (T 1, 40, .inr (.inl rdf))), (h0, .inr (3, [.ref h1, .int x1_27, .int x2_28, .int (nI j_7), .ref h2, .ref h3])), (h1, .inl (T 0, 10, .inl qb)), (h2, .inl (T 0, 10, .inl g_26)), (h3, .inl (T 0, 12, .inl g_29)), (n0, .inr (5, [.int (nI nn), .int nm, .int nl, .int no, .int nu, .ref n1, .ref n2, .ref n3, .ref n4, .ref n5, .ref n6, .ref n7, .ref n8, .ref n9, .ref n10])), (n1, .inl (T 0, 10, .inl nf1)), (n2, .inl (T 0, 10, .inl nf2)), (n3, .inl (T 0, 10, .inl nf3)), (n4, .inl (T 0, 10, .inl nf4)), (n5, .inl (T 0, 10, .inl nf5)), (n9, .inl (T 0, 10, .inl nf9))] H locs := V _ [10, 1, 0, 0, 0, 0, 0, 0, 0, 0] rfl rfl rfl (by decide +kernel) rfl
          show W p l e _ s m args below meth c H locs _ _ _ (F0 m 60 ls [])
          refine lv_iload_n hx hb dX7_holds_60 rfl (lv_at hl 4 rfl) ?_
          refine lv_if_ne (tgt := 74) hx hb dX7_holds_61 (by decide) (fun c_30 => ?_) (fun c_30 => ?_)
          · skip
            refine lv_aload_n hx hb dX7_holds_74 rfl (lv_at hl 1 rfl) ?_
            refine g_get hC V (ci := 7) uwX7 0 rfl rfl 7 (by decide) w_256 rfl rfl dX7_holds_75 ?_
            refine g_get hC V (ci := 3) uwX3 10 rfl rfl 2 (by decide) w_188 rfl rfl dX7_holds_78 ?_
            exact g_iret (Qr := (q_x_holds T o row le wh n0 s0 im iz rw t0 u0 h0 y0 sv ra0 rb0 rc0 rd0 rah raz ra1 ras raf rbh rbz rb1 rbs rbf rch rcz rc1 rcs rcf rdh rdz rd1 rds rdf h1 qx qy ql h2 h3 qb qp qc nn nm nl no nu n1 n2 n3 n4 n5 n6 n7 n8 n9 n10 nf1 nf2 nf3 nf4 nf5 nf9)) hC V ⟨(Nat.le_of_ble_eq_true rfl), (Nat.le_of_ble_eq_true rfl)⟩ ⟨x2_28, x1_27, x2_28, (nI j_7), qb, g_26, g_29, rfl, rfl⟩ dX7_holds_81
          · skip
            refine lv_aload_n hx hb dX7_holds_64 rfl (lv_at hl 1 rfl) ?_
            refine g_get hC V (ci := 7) uwX7 0 rfl rfl 7 (by decide) w_256 rfl rfl dX7_holds_65 ?_
            refine g_get hC V (ci := 3) uwX3 10 rfl rfl 1 (by decide) w_186 rfl rfl dX7_holds_68 ?_
            refine lv_goto (tgt := 81) hx hb dX7_holds_71 (by decide) ?_
            exact g_iret (Qr := (q_x_holds T o row le wh n0 s0 im iz rw t0 u0 h0 y0 sv ra0 rb0 rc0 rd0 rah raz ra1 ras raf rbh rbz rb1 rbs rbf rch rcz rc1 rcs rcf rdh rdz rd1 rds rdf h1 qx qy ql h2 h3 qb qp qc nn nm nl no nu n1 n2 n3 n4 n5 n6 n7 n8 n9 n10 nf1 nf2 nf3 nf4 nf5 nf9)) hC V ⟨(Nat.le_of_ble_eq_true rfl), (Nat.le_of_ble_eq_true rfl)⟩ ⟨x1_27, x1_27, x2_28, (nI j_7), qb, g_26, g_29, rfl, rfl⟩ dX7_holds_81
        · skip
          refine lv_istore (lv' := [(4, .int (nI 0)), (0, .ref o), (1, .int (nI 3)), (2, .int (nI j_7)), (3, .int wh)]) hx hb dX7_holds_25 hl (by decide) rfl (fun ls hl => ?_)
          refine lv_iload hx hb dX7_holds_27 (lv_at hl 0 rfl) ?_
          refine lv_if_eq (tgt := 35) hx hb dX7_holds_29 (by decide) (fun _ => ?_) (fun c => absurd (show (nI 0) = 0 by decide +kernel) c)
          refine lv_aload_n hx hb dX7_holds_35 rfl (lv_at hl 1 rfl) ?_
          refine g_get hC V (ci := 7) uwX7 0 rfl rfl 7 (by decide) w_256 rfl rfl dX7_holds_36 ?_
          refine lv_aload_n hx hb dX7_holds_39 rfl (lv_at hl 1 rfl) ?_
          refine g_get hC V (ci := 7) uwX7 0 rfl rfl 4 (by decide) w_253 rfl rfl dX7_holds_40 ?_
          refine lv_iload_n hx hb dX7_holds_43 rfl (lv_at hl 2 rfl) ?_
          refine g_aald hC V 1 5 rfl rfl (vp_in_nI (by decide) (by decide)) (v := .ref rd0) (by rw [nI_clamp (by decide)]; rfl) dX7_holds_44 ?_
          refine lv_iload_n hx hb dX7_holds_45 rfl (lv_at hl 3 rfl) ?_
          refine g_callVU (nA := 2) hC V hl.1 (h_takeRow l D T h0 rd0 j_7 h1 qx qy ql h2 h3 qp rdh rdz rd1 rds rdf) w_602 w_603 w_604 w_6 w_605 (by decide +kernel) rfl ⟨(Nat.le_of_ble_eq_true rfl), (Nat.le_of_ble_eq_true rfl)⟩ 10 (ci := 3) rfl rfl [10, 12, 8, 9] rfl rfl (Nat.le_of_ble_eq_true rfl) dX7_holds_46 ⟨(Nat.le_of_ble_eq_true rfl), (Nat.le_of_ble_eq_true rfl)⟩ rfl (fun r w1 H locs hQ V => ?_)
          obtain ⟨g_31, rfl, rfl⟩ := hQ
          have V : gW D T A s [(o, .inr (7, [.ref n0, .ref s0, .ref im, .ref iz, .ref rw, .ref t0, .ref u0, .ref h0, .ref y0, sv])), (rw, .inl (T 5, 4, .inr (.inr (.inr (.inr (va_up (va_up (va_up (va_up (fun _ => none) 0 (some ra0)) 1 (some rb0)) 2 (some rc0)) 3 (some rd0))))))), (ra0, .inr (1, [.int rah, .int (nI raz), .ref ra1, .int (nI ras)])), (ra1, .inl (T 1, 40, .inr (.inl raf))), (rb0, .inr (1, [.int rbh, .int (nI rbz), .ref rb1, .int (nI rbs)])), (rb1, .inl (T 1, 40, .inr (.inl rbf))), (rc0, .inr (1, [.int rch, .int (nI rcz), .ref rc1, .int (nI rcs)])), (rc1, .inl (T 1, 40, .inr (.inl rcf))), (rd0, .inr (1, [.int rdh, .int (nI rdz), .ref rd1, .int (nI rds)])), (rd1, .inl (T 1, 40, .inr (.inl rdf))), (h0, .inr (3, [.ref h1, .int qx, .int qy, .int (nI j_7), .ref h2, .ref h3])), (h1, .inl (T 0, 10, .inl qb)), (h2, .inl (T 0, 10, .inl g_31)), (h3, .inl (T 0, 12, .inl qc)), (n0, .inr (5, [.int (nI nn), .int nm, .int nl, .int no, .int nu, .ref n1, .ref n2, .ref n3, .ref n4, .ref n5, .ref n6, .ref n7, .ref n8, .ref n9, .ref n10])), (n1, .inl (T 0, 10, .inl nf1)), (n2, .inl (T 0, 10, .inl nf2)), (n3, .inl (T 0, 10, .inl nf3)), (n4, .inl (T 0, 10, .inl nf4)), (n5, .inl (T 0, 10, .inl nf5)), (n9, .inl (T 0, 10, .inl nf9))] H locs := V _ [8, 0, 0, 1] rfl rfl rfl (by decide +kernel) rfl
          show W p l e _ s m args below meth c H locs _ _ _ (F0 m 49 ls [])
          refine lv_aload_n hx hb dX7_holds_49 rfl (lv_at hl 1 rfl) ?_
          refine g_get hC V (ci := 7) uwX7 0 rfl rfl 7 (by decide) w_256 rfl rfl dX7_holds_50 ?_
          refine lv_aload_n hx hb dX7_holds_53 rfl (lv_at hl 1 rfl) ?_
          refine g_get hC V (ci := 7) uwX7 0 rfl rfl 0 (by decide) w_249 rfl rfl dX7_holds_54 ?_
          refine g_callVU (nA := 1) hC V hl.1 (h_judgeOn l D T h0 n0 h1 qx qy j_7 h2 h3 g_31 qc nn nm nl no nu n1 n2 n3 n4 n5 n6 n7 n8 n9 n10 nf1 nf2 nf3 nf4 nf5 nf9 (by first | assumption | omega) ⟨by omega, by omega⟩) w_610 w_611 w_612 w_6 w_613 (by decide +kernel) rfl ⟨(Nat.le_of_ble_eq_true rfl), (Nat.le_of_ble_eq_true rfl)⟩ 10 (ci := 3) rfl rfl [10, 12, 13, 14, 15, 16, 17, 18, 19, 20] rfl rfl (Nat.le_of_ble_eq_true rfl) dX7_holds_57 ⟨(Nat.le_of_ble_eq_true rfl), (Nat.le_of_ble_eq_true rfl)⟩ rfl (fun r w1 H locs hQ V => ?_)
          obtain ⟨x1_32, x2_33, g_34, rfl, rfl⟩ := hQ
          have V : gW D T A s [(o, .inr (7, [.ref n0, .ref s0, .ref im, .ref iz, .ref rw, .ref t0, .ref u0, .ref h0, .ref y0, sv])), (rw, .inl (T 5, 4, .inr (.inr (.inr (.inr (va_up (va_up (va_up (va_up (fun _ => none) 0 (some ra0)) 1 (some rb0)) 2 (some rc0)) 3 (some rd0))))))), (ra0, .inr (1, [.int rah, .int (nI raz), .ref ra1, .int (nI ras)])), (ra1, .inl (T 1, 40, .inr (.inl raf))), (rb0, .inr (1, [.int rbh, .int (nI rbz), .ref rb1, .int (nI rbs)])), (rb1, .inl (T 1, 40, .inr (.inl rbf))), (rc0, .inr (1, [.int rch, .int (nI rcz), .ref rc1, .int (nI rcs)])), (rc1, .inl (T 1, 40, .inr (.inl rcf))), (rd0, .inr (1, [.int rdh, .int (nI rdz), .ref rd1, .int (nI rds)])), (rd1, .inl (T 1, 40, .inr (.inl rdf))), (h0, .inr (3, [.ref h1, .int x1_32, .int x2_33, .int (nI j_7), .ref h2, .ref h3])), (h1, .inl (T 0, 10, .inl qb)), (h2, .inl (T 0, 10, .inl g_31)), (h3, .inl (T 0, 12, .inl g_34)), (n0, .inr (5, [.int (nI nn), .int nm, .int nl, .int no, .int nu, .ref n1, .ref n2, .ref n3, .ref n4, .ref n5, .ref n6, .ref n7, .ref n8, .ref n9, .ref n10])), (n1, .inl (T 0, 10, .inl nf1)), (n2, .inl (T 0, 10, .inl nf2)), (n3, .inl (T 0, 10, .inl nf3)), (n4, .inl (T 0, 10, .inl nf4)), (n5, .inl (T 0, 10, .inl nf5)), (n9, .inl (T 0, 10, .inl nf9))] H locs := V _ [10, 1, 0, 0, 0, 0, 0, 0, 0, 0] rfl rfl rfl (by decide +kernel) rfl
          show W p l e _ s m args below meth c H locs _ _ _ (F0 m 60 ls [])
          refine lv_iload_n hx hb dX7_holds_60 rfl (lv_at hl 4 rfl) ?_
          refine lv_if_ne (tgt := 74) hx hb dX7_holds_61 (by decide) (fun c_35 => ?_) (fun c_35 => ?_)
          · skip
            refine lv_aload_n hx hb dX7_holds_74 rfl (lv_at hl 1 rfl) ?_
            refine g_get hC V (ci := 7) uwX7 0 rfl rfl 7 (by decide) w_256 rfl rfl dX7_holds_75 ?_
            refine g_get hC V (ci := 3) uwX3 10 rfl rfl 2 (by decide) w_188 rfl rfl dX7_holds_78 ?_
            exact g_iret (Qr := (q_x_holds T o row le wh n0 s0 im iz rw t0 u0 h0 y0 sv ra0 rb0 rc0 rd0 rah raz ra1 ras raf rbh rbz rb1 rbs rbf rch rcz rc1 rcs rcf rdh rdz rd1 rds rdf h1 qx qy ql h2 h3 qb qp qc nn nm nl no nu n1 n2 n3 n4 n5 n6 n7 n8 n9 n10 nf1 nf2 nf3 nf4 nf5 nf9)) hC V ⟨(Nat.le_of_ble_eq_true rfl), (Nat.le_of_ble_eq_true rfl)⟩ ⟨x2_33, x1_32, x2_33, (nI j_7), qb, g_31, g_34, rfl, rfl⟩ dX7_holds_81
          · skip
            refine lv_aload_n hx hb dX7_holds_64 rfl (lv_at hl 1 rfl) ?_
            refine g_get hC V (ci := 7) uwX7 0 rfl rfl 7 (by decide) w_256 rfl rfl dX7_holds_65 ?_
            refine g_get hC V (ci := 3) uwX3 10 rfl rfl 1 (by decide) w_186 rfl rfl dX7_holds_68 ?_
            refine lv_goto (tgt := 81) hx hb dX7_holds_71 (by decide) ?_
            exact g_iret (Qr := (q_x_holds T o row le wh n0 s0 im iz rw t0 u0 h0 y0 sv ra0 rb0 rc0 rd0 rah raz ra1 ras raf rbh rbz rb1 rbs rbf rch rcz rc1 rcs rcf rdh rdz rd1 rds rdf h1 qx qy ql h2 h3 qb qp qc nn nm nl no nu n1 n2 n3 n4 n5 n6 n7 n8 n9 n10 nf1 nf2 nf3 nf4 nf5 nf9)) hC V ⟨(Nat.le_of_ble_eq_true rfl), (Nat.le_of_ble_eq_true rfl)⟩ ⟨x1_32, x1_32, x2_33, (nI j_7), qb, g_31, g_34, rfl, rfl⟩ dX7_holds_81
      · have V : gW D T A s [(o, .inr (7, [.ref n0, .ref s0, .ref im, .ref iz, .ref rw, .ref t0, .ref u0, .ref h0, .ref y0, sv])), (rw, .inl (T 5, 4, .inr (.inr (.inr (.inr (va_up (va_up (va_up (va_up (fun _ => none) 0 (some ra0)) 1 (some rb0)) 2 (some rc0)) 3 (some rd0))))))), (ra0, .inr (1, [.int rah, .int (nI raz), .ref ra1, .int (nI ras)])), (ra1, .inl (T 1, 40, .inr (.inl raf))), (rb0, .inr (1, [.int rbh, .int (nI rbz), .ref rb1, .int (nI rbs)])), (rb1, .inl (T 1, 40, .inr (.inl rbf))), (rc0, .inr (1, [.int rch, .int (nI rcz), .ref rc1, .int (nI rcs)])), (rc1, .inl (T 1, 40, .inr (.inl rcf))), (rd0, .inr (1, [.int rdh, .int (nI rdz), .ref rd1, .int (nI rds)])), (rd1, .inl (T 1, 40, .inr (.inl rdf))), (h0, .inr (3, [.ref h1, .int qx, .int qy, .int ql, .ref h2, .ref h3])), (h1, .inl (T 0, 10, .inl qb)), (h2, .inl (T 0, 10, .inl qp)), (h3, .inl (T 0, 12, .inl qc)), (n0, .inr (5, [.int (nI nn), .int nm, .int nl, .int no, .int nu, .ref n1, .ref n2, .ref n3, .ref n4, .ref n5, .ref n6, .ref n7, .ref n8, .ref n9, .ref n10])), (n1, .inl (T 0, 10, .inl nf1)), (n2, .inl (T 0, 10, .inl nf2)), (n3, .inl (T 0, 10, .inl nf3)), (n4, .inl (T 0, 10, .inl nf4)), (n5, .inl (T 0, 10, .inl nf5)), (n9, .inl (T 0, 10, .inl nf9))] H locs := V _ [0, 0, 0, 0, 0, 0, 0, 0, 0, 0, 4] rfl rfl rfl (by decide +kernel) rfl
        show W p l e _ s m args below meth c H locs _ _ _ (F0 m 25 ls [.int z_13])
        refine lv_istore (lv' := [(4, .int z_13), (0, .ref o), (1, .int row), (2, .int le), (3, .int wh)]) hx hb dX7_holds_25 hl (by decide) rfl (fun ls hl => ?_)
        refine lv_iload hx hb dX7_holds_27 (lv_at hl 0 rfl) ?_
        refine lv_if_eq (tgt := 35) hx hb dX7_holds_29 (by decide) (fun c_36 => ?_) (fun c_36 => ?_)
        · skip
          exact (absurd c_36 (by assumption) : False).elim
        · skip
          refine lv_iload hx hb dX7_holds_32 (lv_at hl 0 rfl) ?_
          exact g_iret (Qr := (q_x_holds T o row le wh n0 s0 im iz rw t0 u0 h0 y0 sv ra0 rb0 rc0 rd0 rah raz ra1 ras raf rbh rbz rb1 rbs rbf rch rcz rc1 rcs rcf rdh rdz rd1 rds rdf h1 qx qy ql h2 h3 qb qp qc nn nm nl no nu n1 n2 n3 n4 n5 n6 n7 n8 n9 n10 nf1 nf2 nf3 nf4 nf5 nf9)) hC V ⟨(Nat.le_of_ble_eq_true rfl), (Nat.le_of_ble_eq_true rfl)⟩ ⟨z_13, qx, qy, ql, qb, qp, qc, rfl, rfl⟩ dX7_holds_34
    · have V : gW D T A s [(o, .inr (7, [.ref n0, .ref s0, .ref im, .ref iz, .ref rw, .ref t0, .ref u0, .ref h0, .ref y0, sv])), (rw, .inl (T 5, 4, .inr (.inr (.inr (.inr (va_up (va_up (va_up (va_up (fun _ => none) 0 (some ra0)) 1 (some rb0)) 2 (some rc0)) 3 (some rd0))))))), (ra0, .inr (1, [.int rah, .int (nI raz), .ref ra1, .int (nI ras)])), (ra1, .inl (T 1, 40, .inr (.inl raf))), (rb0, .inr (1, [.int rbh, .int (nI rbz), .ref rb1, .int (nI rbs)])), (rb1, .inl (T 1, 40, .inr (.inl rbf))), (rc0, .inr (1, [.int rch, .int (nI rcz), .ref rc1, .int (nI rcs)])), (rc1, .inl (T 1, 40, .inr (.inl rcf))), (rd0, .inr (1, [.int rdh, .int (nI rdz), .ref rd1, .int (nI rds)])), (rd1, .inl (T 1, 40, .inr (.inl rdf))), (h0, .inr (3, [.ref h1, .int qx, .int qy, .int ql, .ref h2, .ref h3])), (h1, .inl (T 0, 10, .inl qb)), (h2, .inl (T 0, 10, .inl qp)), (h3, .inl (T 0, 12, .inl qc)), (n0, .inr (5, [.int (nI nn), .int nm, .int nl, .int no, .int nu, .ref n1, .ref n2, .ref n3, .ref n4, .ref n5, .ref n6, .ref n7, .ref n8, .ref n9, .ref n10])), (n1, .inl (T 0, 10, .inl nf1)), (n2, .inl (T 0, 10, .inl nf2)), (n3, .inl (T 0, 10, .inl nf3)), (n4, .inl (T 0, 10, .inl nf4)), (n5, .inl (T 0, 10, .inl nf5)), (n9, .inl (T 0, 10, .inl nf9))] H locs := V _ [] rfl rfl rfl (by decide +kernel) rfl
      show W p l e _ s m args below meth c H locs _ _ _ (F0 m 13 ls [.int (nI 0)])
      refine lv_if_ne (tgt := 19) hx hb dX7_holds_13 (by decide) (fun c => absurd (show (nI 0) = 0 by decide +kernel) c) (fun _ => ?_)
      refine lv_bipush (v := (-2)) hx hb dX7_holds_16 (by decide +kernel) ?_
      exact g_iret (Qr := (q_x_holds T o row le wh n0 s0 im iz rw t0 u0 h0 y0 sv ra0 rb0 rc0 rd0 rah raz ra1 ras raf rbh rbz rb1 rbs rbf rch rcz rc1 rcs rcf rdh rdz rd1 rds rdf h1 qx qy ql h2 h3 qb qp qc nn nm nl no nu n1 n2 n3 n4 n5 n6 n7 n8 n9 n10 nf1 nf2 nf3 nf4 nf5 nf9)) hC V ⟨(Nat.le_of_ble_eq_true rfl), (Nat.le_of_ble_eq_true rfl)⟩ ⟨(-2), qx, qy, ql, qb, qp, qc, rfl, rfl⟩ dX7_holds_18
  · have V : gW D T A s [(o, .inr (7, [.ref n0, .ref s0, .ref im, .ref iz, .ref rw, .ref t0, .ref u0, .ref h0, .ref y0, sv])), (rw, .inl (T 5, 4, .inr (.inr (.inr (.inr (va_up (va_up (va_up (va_up (fun _ => none) 0 (some ra0)) 1 (some rb0)) 2 (some rc0)) 3 (some rd0))))))), (ra0, .inr (1, [.int rah, .int (nI raz), .ref ra1, .int (nI ras)])), (ra1, .inl (T 1, 40, .inr (.inl raf))), (rb0, .inr (1, [.int rbh, .int (nI rbz), .ref rb1, .int (nI rbs)])), (rb1, .inl (T 1, 40, .inr (.inl rbf))), (rc0, .inr (1, [.int rch, .int (nI rcz), .ref rc1, .int (nI rcs)])), (rc1, .inl (T 1, 40, .inr (.inl rcf))), (rd0, .inr (1, [.int rdh, .int (nI rdz), .ref rd1, .int (nI rds)])), (rd1, .inl (T 1, 40, .inr (.inl rdf))), (h0, .inr (3, [.ref h1, .int qx, .int qy, .int ql, .ref h2, .ref h3])), (h1, .inl (T 0, 10, .inl qb)), (h2, .inl (T 0, 10, .inl qp)), (h3, .inl (T 0, 12, .inl qc)), (n0, .inr (5, [.int (nI nn), .int nm, .int nl, .int no, .int nu, .ref n1, .ref n2, .ref n3, .ref n4, .ref n5, .ref n6, .ref n7, .ref n8, .ref n9, .ref n10])), (n1, .inl (T 0, 10, .inl nf1)), (n2, .inl (T 0, 10, .inl nf2)), (n3, .inl (T 0, 10, .inl nf3)), (n4, .inl (T 0, 10, .inl nf4)), (n5, .inl (T 0, 10, .inl nf5)), (n9, .inl (T 0, 10, .inl nf9))] H locs := V _ [] rfl rfl rfl (by decide +kernel) rfl
    show W p l e _ s m args below meth c H locs _ _ _ (F0 m 4 ls [.int (nI 0)])
    refine lv_if_eq (tgt := 16) hx hb dX7_holds_4 (by decide) (fun _ => ?_) (fun c => absurd (show (nI 0) = 0 by decide +kernel) c)
    refine lv_bipush (v := (-2)) hx hb dX7_holds_16 (by decide +kernel) ?_
    exact g_iret (Qr := (q_x_holds T o row le wh n0 s0 im iz rw t0 u0 h0 y0 sv ra0 rb0 rc0 rd0 rah raz ra1 ras raf rbh rbz rb1 rbs rbf rch rcz rc1 rcs rcf rdh rdz rd1 rds rdf h1 qx qy ql h2 h3 qb qp qc nn nm nl no nu n1 n2 n3 n4 n5 n6 n7 n8 n9 n10 nf1 nf2 nf3 nf4 nf5 nf9)) hC V ⟨(Nat.le_of_ble_eq_true rfl), (Nat.le_of_ble_eq_true rfl)⟩ ⟨(-2), qx, qy, ql, qb, qp, qc, rfl, rfl⟩ dX7_holds_18

def q_x_even (T : Nat → ClassId) (o : Nat) (row : Int32) (le : Int32) (n0 : Nat) (s0 : Nat) (im : Nat) (iz : Nat) (rw : Nat) (t0 : Nat) (u0 : Nat) (h0 : Nat) (y0 : Nat) (sv : Value) (ra0 : Nat) (rb0 : Nat) (rc0 : Nat) (rd0 : Nat) (rah : Int32) (raz : Nat) (ra1 : Nat) (ras : Nat) (raf : Nat → Int64) (rbh : Int32) (rbz : Nat) (rb1 : Nat) (rbs : Nat) (rbf : Nat → Int64) (rch : Int32) (rcz : Nat) (rc1 : Nat) (rcs : Nat) (rcf : Nat → Int64) (rdh : Int32) (rdz : Nat) (rd1 : Nat) (rds : Nat) (rdf : Nat → Int64) (h1 : Nat) (qx : Int32) (qy : Int32) (ql : Int32) (h2 : Nat) (h3 : Nat) (qb : Nat → Int32) (qp : Nat → Int32) (qc : Nat → Int32) (nn : Nat) (nm : Int32) (nl : Int32) (no : Int32) (nu : Int32) (n1 : Nat) (n2 : Nat) (n3 : Nat) (n4 : Nat) (n5 : Nat) (n6 : Nat) (n7 : Nat) (n8 : Nat) (n9 : Nat) (n10 : Nat) (nf1 : Nat → Int32) (nf2 : Nat → Int32) (nf3 : Nat → Int32) (nf4 : Nat → Int32) (nf5 : Nat → Int32) (nf9 : Nat → Int32) : Option Value → va_W → Prop := fun rr ww => (∃ (z : Int32) (x1 : Int32) (x2 : Int32) (x3 : Int32) (k1 : Nat → Int32) (k2 : Nat → Int32) (k3 : Nat → Int32), rr = some (.int z) ∧ ww = [(o, .inr (7, [.ref n0, .ref s0, .ref im, .ref iz, .ref rw, .ref t0, .ref u0, .ref h0, .ref y0, sv])), (rw, .inl (T 5, 4, .inr (.inr (.inr (.inr (va_up (va_up (va_up (va_up (fun _ => none) 0 (some ra0)) 1 (some rb0)) 2 (some rc0)) 3 (some rd0))))))), (ra0, .inr (1, [.int rah, .int (nI raz), .ref ra1, .int (nI ras)])), (ra1, .inl (T 1, 40, .inr (.inl raf))), (rb0, .inr (1, [.int rbh, .int (nI rbz), .ref rb1, .int (nI rbs)])), (rb1, .inl (T 1, 40, .inr (.inl rbf))), (rc0, .inr (1, [.int rch, .int (nI rcz), .ref rc1, .int (nI rcs)])), (rc1, .inl (T 1, 40, .inr (.inl rcf))), (rd0, .inr (1, [.int rdh, .int (nI rdz), .ref rd1, .int (nI rds)])), (rd1, .inl (T 1, 40, .inr (.inl rdf))), (h0, .inr (3, [.ref h1, .int x1, .int x2, .int x3, .ref h2, .ref h3])), (h1, .inl (T 0, 10, .inl k1)), (h2, .inl (T 0, 10, .inl k2)), (h3, .inl (T 0, 12, .inl k3)), (n0, .inr (5, [.int (nI nn), .int nm, .int nl, .int no, .int nu, .ref n1, .ref n2, .ref n3, .ref n4, .ref n5, .ref n6, .ref n7, .ref n8, .ref n9, .ref n10])), (n1, .inl (T 0, 10, .inl nf1)), (n2, .inl (T 0, 10, .inl nf2)), (n3, .inl (T 0, 10, .inl nf3)), (n4, .inl (T 0, 10, .inl nf4)), (n5, .inl (T 0, 10, .inl nf5)), (n9, .inl (T 0, 10, .inl nf9))])
set_option maxHeartbeats 4000000 in
set_option maxRecDepth 100000 in
theorem x_even (l : Launch) (D : va_G) (T : Nat → ClassId) (o : Nat) (row : Int32) (le : Int32) (n0 : Nat) (s0 : Nat) (im : Nat) (iz : Nat) (rw : Nat) (t0 : Nat) (u0 : Nat) (h0 : Nat) (y0 : Nat) (sv : Value) (ra0 : Nat) (rb0 : Nat) (rc0 : Nat) (rd0 : Nat) (rah : Int32) (raz : Nat) (ra1 : Nat) (ras : Nat) (raf : Nat → Int64) (rbh : Int32) (rbz : Nat) (rb1 : Nat) (rbs : Nat) (rbf : Nat → Int64) (rch : Int32) (rcz : Nat) (rc1 : Nat) (rcs : Nat) (rcf : Nat → Int64) (rdh : Int32) (rdz : Nat) (rd1 : Nat) (rds : Nat) (rdf : Nat → Int64) (h1 : Nat) (qx : Int32) (qy : Int32) (ql : Int32) (h2 : Nat) (h3 : Nat) (qb : Nat → Int32) (qp : Nat → Int32) (qc : Nat → Int32) (nn : Nat) (nm : Int32) (nl : Int32) (no : Int32) (nu : Int32) (n1 : Nat) (n2 : Nat) (n3 : Nat) (n4 : Nat) (n5 : Nat) (n6 : Nat) (n7 : Nat) (n8 : Nat) (n9 : Nat) (n10 : Nat) (nf1 : Nat → Int32) (nf2 : Nat → Int32) (nf3 : Nat → Int32) (nf4 : Nat → Int32) (nf5 : Nat → Int32) (nf9 : Nat → Int32) (h_n : nn ≤ 10) (h_t : ∀ i, i < nn → bd (nf9 i) nn) (h_zra : raz ≤ 40) (h_zrb : rbz ≤ 40) (h_zrc : rcz ≤ 40) (h_zrd : rdz ≤ 40) (h_sra : ras ≤ 3) (h_srb : rbs ≤ 3) (h_src : rcs ≤ 3) (h_srd : rds ≤ 3) : Ct l yX7_even cX7_even 4 (some .int) 4 0 0 D T [.ref o, .int row, .int le] [(o, .inr (7, [.ref n0, .ref s0, .ref im, .ref iz, .ref rw, .ref t0, .ref u0, .ref h0, .ref y0, sv])), (rw, .inl (T 5, 4, .inr (.inr (.inr (.inr (va_up (va_up (va_up (va_up (fun _ => none) 0 (some ra0)) 1 (some rb0)) 2 (some rc0)) 3 (some rd0))))))), (ra0, .inr (1, [.int rah, .int (nI raz), .ref ra1, .int (nI ras)])), (ra1, .inl (T 1, 40, .inr (.inl raf))), (rb0, .inr (1, [.int rbh, .int (nI rbz), .ref rb1, .int (nI rbs)])), (rb1, .inl (T 1, 40, .inr (.inl rbf))), (rc0, .inr (1, [.int rch, .int (nI rcz), .ref rc1, .int (nI rcs)])), (rc1, .inl (T 1, 40, .inr (.inl rcf))), (rd0, .inr (1, [.int rdh, .int (nI rdz), .ref rd1, .int (nI rds)])), (rd1, .inl (T 1, 40, .inr (.inl rdf))), (h0, .inr (3, [.ref h1, .int qx, .int qy, .int ql, .ref h2, .ref h3])), (h1, .inl (T 0, 10, .inl qb)), (h2, .inl (T 0, 10, .inl qp)), (h3, .inl (T 0, 12, .inl qc)), (n0, .inr (5, [.int (nI nn), .int nm, .int nl, .int no, .int nu, .ref n1, .ref n2, .ref n3, .ref n4, .ref n5, .ref n6, .ref n7, .ref n8, .ref n9, .ref n10])), (n1, .inl (T 0, 10, .inl nf1)), (n2, .inl (T 0, 10, .inl nf2)), (n3, .inl (T 0, 10, .inl nf3)), (n4, .inl (T 0, 10, .inl nf4)), (n5, .inl (T 0, 10, .inl nf5)), (n9, .inl (T 0, 10, .inl nf9))] (q_x_even T o row le n0 s0 im iz rw t0 u0 h0 y0 sv ra0 rb0 rc0 rd0 rah raz ra1 ras raf rbh rbz rb1 rbs rbf rch rcz rc1 rcs rcf rdh rdz rd1 rds rdf h1 qx qy ql h2 h3 qb qp qc nn nm nl no nu n1 n2 n3 n4 n5 n6 n7 n8 n9 n10 nf1 nf2 nf3 nf4 nf5 nf9) := by
  refine Ct.of (cc := cX7_even) (maxL := 4) (ret := (some .int)) (by decide) (Nat.le_of_ble_eq_true rfl) ?_
  intro p e s m args below meth c A ls hC hnm V hl
  obtain ⟨hx, hb, hr, hml, hown, hts, hlocks⟩ := id hC
  generalize hH : s.heap = H at V ⊢
  clear hH
  have hl : lv_has ls 4 [(0, .ref o), (1, .int row), (2, .int le)] := hl
  generalize hlo : ([] : List Loc) = locs at V ⊢
  clear hlo
  refine lv_aload_n hx hb dX7_even_0 rfl (lv_at hl 0 rfl) ?_
  refine lv_iload_n hx hb dX7_even_1 rfl (lv_at hl 1 rfl) ?_
  refine lv_iload_n hx hb dX7_even_2 rfl (lv_at hl 2 rfl) ?_
  refine g_callVU (nA := 2) hC V hl.1 (x_refusedRhythms l D T o row le n0 s0 im iz rw t0 u0 h0 y0 sv ra0 rb0 rc0 rd0 rah raz ra1 ras raf rbh rbz rb1 rbs rbf rch rcz rc1 rcs rcf rdh rdz rd1 rds rdf nn nm nl no nu n1 n2 n3 n4 n5 n6 n7 n8 n9 n10 (by first | assumption | omega) (by first | assumption | omega) (by first | assumption | omega) (by first | assumption | omega) (by first | assumption | omega) (by first | assumption | omega) (by first | assumption | omega) (by first | assumption | omega) (by first | assumption | omega)) w_594 w_596 w_s15 w_2 w_597 (by decide +kernel) rfl ⟨(Nat.le_of_ble_eq_true rfl), (Nat.le_of_ble_eq_true rfl)⟩ 0 (ci := 7) rfl rfl [0, 1, 2, 3, 4, 5, 6, 7, 8, 9, 14] rfl rfl (Nat.le_of_ble_eq_true rfl) dX7_even_3 ⟨(Nat.le_of_ble_eq_true rfl), (Nat.le_of_ble_eq_true rfl)⟩ rfl (fun r w1 H locs hQ V => ?_)
  rcases hQ with ⟨j_1, rfl, rfl, f_2, f_3, f_4, f_5, f_6⟩ | ⟨z_7, rfl, rfl, f_8⟩
  · have V : gW D T A s [(o, .inr (7, [.ref n0, .ref s0, .ref im, .ref iz, .ref rw, .ref t0, .ref u0, .ref h0, .ref y0, sv])), (rw, .inl (T 5, 4, .inr (.inr (.inr (.inr (va_up (va_up (va_up (va_up (fun _ => none) 0 (some ra0)) 1 (some rb0)) 2 (some rc0)) 3 (some rd0))))))), (ra0, .inr (1, [.int rah, .int (nI raz), .ref ra1, .int (nI ras)])), (ra1, .inl (T 1, 40, .inr (.inl raf))), (rb0, .inr (1, [.int rbh, .int (nI rbz), .ref rb1, .int (nI rbs)])), (rb1, .inl (T 1, 40, .inr (.inl rbf))), (rc0, .inr (1, [.int rch, .int (nI rcz), .ref rc1, .int (nI rcs)])), (rc1, .inl (T 1, 40, .inr (.inl rcf))), (rd0, .inr (1, [.int rdh, .int (nI rdz), .ref rd1, .int (nI rds)])), (rd1, .inl (T 1, 40, .inr (.inl rdf))), (h0, .inr (3, [.ref h1, .int qx, .int qy, .int ql, .ref h2, .ref h3])), (h1, .inl (T 0, 10, .inl qb)), (h2, .inl (T 0, 10, .inl qp)), (h3, .inl (T 0, 12, .inl qc)), (n0, .inr (5, [.int (nI nn), .int nm, .int nl, .int no, .int nu, .ref n1, .ref n2, .ref n3, .ref n4, .ref n5, .ref n6, .ref n7, .ref n8, .ref n9, .ref n10])), (n1, .inl (T 0, 10, .inl nf1)), (n2, .inl (T 0, 10, .inl nf2)), (n3, .inl (T 0, 10, .inl nf3)), (n4, .inl (T 0, 10, .inl nf4)), (n5, .inl (T 0, 10, .inl nf5)), (n9, .inl (T 0, 10, .inl nf9))] H locs := V _ [0, 0, 0, 0, 0, 0, 0, 0, 0, 0, 4] rfl rfl rfl (by decide +kernel) rfl
    show W p l e _ s m args below meth c H locs _ _ _ (F0 m 6 ls [.int (nI 0)])
    rw [f_6] at hl
    obtain ⟨j_9, hj_9, ej_9⟩ := g_idx (n := 4) (by decide) f_2 f_3
    rw [ej_9] at hl
    have hj_9 : j_9 = 0 ∨ j_9 = 1 ∨ j_9 = 2 ∨ j_9 = 3 := by omega
    rcases hj_9 with rfl | rfl | rfl | rfl
    · skip
      refine lv_istore_n (lv' := [(3, .int (nI 0)), (0, .ref o), (1, .int (nI 0)), (2, .int (nI j_1))]) hx hb dX7_even_6 rfl hl (by decide) rfl (fun ls hl => ?_)
      refine lv_iload_n hx hb dX7_even_7 rfl (lv_at hl 0 rfl) ?_
      refine lv_if_eq (tgt := 13) hx hb dX7_even_8 (by decide) (fun _ => ?_) (fun c => absurd (show (nI 0) = 0 by decide +kernel) c)
      refine lv_aload_n hx hb dX7_even_13 rfl (lv_at hl 1 rfl) ?_
      refine g_get hC V (ci := 7) uwX7 0 rfl rfl 7 (by decide) w_256 rfl rfl dX7_even_14 ?_
      refine lv_aload_n hx hb dX7_even_17 rfl (lv_at hl 1 rfl) ?_
      refine g_get hC V (ci := 7) uwX7 0 rfl rfl 4 (by decide) w_253 rfl rfl dX7_even_18 ?_
      refine lv_iload_n hx hb dX7_even_21 rfl (lv_at hl 2 rfl) ?_
      refine g_aald hC V 1 5 rfl rfl (vp_in_nI (by decide) (by decide)) (v := .ref ra0) (by rw [nI_clamp (by decide)]; rfl) dX7_even_22 ?_
      refine lv_iload_n hx hb dX7_even_23 rfl (lv_at hl 3 rfl) ?_
      refine g_callVU (nA := 2) hC V hl.1 (h_takeRow l D T h0 ra0 j_1 h1 qx qy ql h2 h3 qp rah raz ra1 ras raf) w_602 w_603 w_604 w_6 w_605 (by decide +kernel) rfl ⟨(Nat.le_of_ble_eq_true rfl), (Nat.le_of_ble_eq_true rfl)⟩ 10 (ci := 3) rfl rfl [10, 12, 2, 3] rfl rfl (Nat.le_of_ble_eq_true rfl) dX7_even_24 ⟨(Nat.le_of_ble_eq_true rfl), (Nat.le_of_ble_eq_true rfl)⟩ rfl (fun r w1 H locs hQ V => ?_)
      obtain ⟨g_10, rfl, rfl⟩ := hQ
      have V : gW D T A s [(o, .inr (7, [.ref n0, .ref s0, .ref im, .ref iz, .ref rw, .ref t0, .ref u0, .ref h0, .ref y0, sv])), (rw, .inl (T 5, 4, .inr (.inr (.inr (.inr (va_up (va_up (va_up (va_up (fun _ => none) 0 (some ra0)) 1 (some rb0)) 2 (some rc0)) 3 (some rd0))))))), (ra0, .inr (1, [.int rah, .int (nI raz), .ref ra1, .int (nI ras)])), (ra1, .inl (T 1, 40, .inr (.inl raf))), (rb0, .inr (1, [.int rbh, .int (nI rbz), .ref rb1, .int (nI rbs)])), (rb1, .inl (T 1, 40, .inr (.inl rbf))), (rc0, .inr (1, [.int rch, .int (nI rcz), .ref rc1, .int (nI rcs)])), (rc1, .inl (T 1, 40, .inr (.inl rcf))), (rd0, .inr (1, [.int rdh, .int (nI rdz), .ref rd1, .int (nI rds)])), (rd1, .inl (T 1, 40, .inr (.inl rdf))), (h0, .inr (3, [.ref h1, .int qx, .int qy, .int (nI j_1), .ref h2, .ref h3])), (h1, .inl (T 0, 10, .inl qb)), (h2, .inl (T 0, 10, .inl g_10)), (h3, .inl (T 0, 12, .inl qc)), (n0, .inr (5, [.int (nI nn), .int nm, .int nl, .int no, .int nu, .ref n1, .ref n2, .ref n3, .ref n4, .ref n5, .ref n6, .ref n7, .ref n8, .ref n9, .ref n10])), (n1, .inl (T 0, 10, .inl nf1)), (n2, .inl (T 0, 10, .inl nf2)), (n3, .inl (T 0, 10, .inl nf3)), (n4, .inl (T 0, 10, .inl nf4)), (n5, .inl (T 0, 10, .inl nf5)), (n9, .inl (T 0, 10, .inl nf9))] H locs := V _ [2, 0, 6, 1] rfl rfl rfl (by decide +kernel) rfl
      show W p l e _ s m args below meth c H locs _ _ _ (F0 m 27 ls [])
      refine lv_aload_n hx hb dX7_even_27 rfl (lv_at hl 1 rfl) ?_
      refine g_get hC V (ci := 7) uwX7 0 rfl rfl 7 (by decide) w_256 rfl rfl dX7_even_28 ?_
      refine lv_aload_n hx hb dX7_even_31 rfl (lv_at hl 1 rfl) ?_
      refine g_get hC V (ci := 7) uwX7 0 rfl rfl 0 (by decide) w_249 rfl rfl dX7_even_32 ?_
      refine g_callVU (nA := 1) hC V hl.1 (h_evenOnes l D T h0 n0 h1 qx qy j_1 h2 h3 g_10 qc nn nm nl no nu n1 n2 n3 n4 n5 n6 n7 n8 n9 n10 nf1 nf2 nf9 (by first | assumption | omega) ⟨by omega, by omega⟩) w_629 w_630 w_631 w_6 w_632 (by decide +kernel) rfl ⟨(Nat.le_of_ble_eq_true rfl), (Nat.le_of_ble_eq_true rfl)⟩ 10 (ci := 3) rfl rfl [10, 12, 13, 14, 15, 16, 20] rfl rfl (Nat.le_of_ble_eq_true rfl) dX7_even_35 ⟨(Nat.le_of_ble_eq_true rfl), (Nat.le_of_ble_eq_true rfl)⟩ rfl (fun r w1 H locs hQ V => ?_)
      obtain ⟨z_11, g_12, rfl, rfl⟩ := hQ
      have V : gW D T A s [(o, .inr (7, [.ref n0, .ref s0, .ref im, .ref iz, .ref rw, .ref t0, .ref u0, .ref h0, .ref y0, sv])), (rw, .inl (T 5, 4, .inr (.inr (.inr (.inr (va_up (va_up (va_up (va_up (fun _ => none) 0 (some ra0)) 1 (some rb0)) 2 (some rc0)) 3 (some rd0))))))), (ra0, .inr (1, [.int rah, .int (nI raz), .ref ra1, .int (nI ras)])), (ra1, .inl (T 1, 40, .inr (.inl raf))), (rb0, .inr (1, [.int rbh, .int (nI rbz), .ref rb1, .int (nI rbs)])), (rb1, .inl (T 1, 40, .inr (.inl rbf))), (rc0, .inr (1, [.int rch, .int (nI rcz), .ref rc1, .int (nI rcs)])), (rc1, .inl (T 1, 40, .inr (.inl rcf))), (rd0, .inr (1, [.int rdh, .int (nI rdz), .ref rd1, .int (nI rds)])), (rd1, .inl (T 1, 40, .inr (.inl rdf))), (h0, .inr (3, [.ref h1, .int qx, .int qy, .int (nI j_1), .ref h2, .ref h3])), (h1, .inl (T 0, 10, .inl qb)), (h2, .inl (T 0, 10, .inl g_10)), (h3, .inl (T 0, 12, .inl g_12)), (n0, .inr (5, [.int (nI nn), .int nm, .int nl, .int no, .int nu, .ref n1, .ref n2, .ref n3, .ref n4, .ref n5, .ref n6, .ref n7, .ref n8, .ref n9, .ref n10])), (n1, .inl (T 0, 10, .inl nf1)), (n2, .inl (T 0, 10, .inl nf2)), (n3, .inl (T 0, 10, .inl nf3)), (n4, .inl (T 0, 10, .inl nf4)), (n5, .inl (T 0, 10, .inl nf5)), (n9, .inl (T 0, 10, .inl nf9))] H locs := V _ [10, 1, 0, 0, 0, 0, 3] rfl rfl rfl (by decide +kernel) rfl
      show W p l e _ s m args below meth c H locs _ _ _ (F0 m 38 ls [.int z_11])
      exact g_iret (Qr := (q_x_even T o row le n0 s0 im iz rw t0 u0 h0 y0 sv ra0 rb0 rc0 rd0 rah raz ra1 ras raf rbh rbz rb1 rbs rbf rch rcz rc1 rcs rcf rdh rdz rd1 rds rdf h1 qx qy ql h2 h3 qb qp qc nn nm nl no nu n1 n2 n3 n4 n5 n6 n7 n8 n9 n10 nf1 nf2 nf3 nf4 nf5 nf9)) hC V ⟨(Nat.le_of_ble_eq_true rfl), (Nat.le_of_ble_eq_true rfl)⟩ ⟨z_11, qx, qy, (nI j_1), qb, g_10, g_12, rfl, rfl⟩ dX7_even_38
    · skip
      refine lv_istore_n (lv' := [(3, .int (nI 0)), (0, .ref o), (1, .int (nI 1)), (2, .int (nI j_1))]) hx hb dX7_even_6 rfl hl (by decide) rfl (fun ls hl => ?_)
      refine lv_iload_n hx hb dX7_even_7 rfl (lv_at hl 0 rfl) ?_
      refine lv_if_eq (tgt := 13) hx hb dX7_even_8 (by decide) (fun _ => ?_) (fun c => absurd (show (nI 0) = 0 by decide +kernel) c)
      refine lv_aload_n hx hb dX7_even_13 rfl (lv_at hl 1 rfl) ?_
      refine g_get hC V (ci := 7) uwX7 0 rfl rfl 7 (by decide) w_256 rfl rfl dX7_even_14 ?_
      refine lv_aload_n hx hb dX7_even_17 rfl (lv_at hl 1 rfl) ?_
      refine g_get hC V (ci := 7) uwX7 0 rfl rfl 4 (by decide) w_253 rfl rfl dX7_even_18 ?_
      refine lv_iload_n hx hb dX7_even_21 rfl (lv_at hl 2 rfl) ?_
      refine g_aald hC V 1 5 rfl rfl (vp_in_nI (by decide) (by decide)) (v := .ref rb0) (by rw [nI_clamp (by decide)]; rfl) dX7_even_22 ?_
      refine lv_iload_n hx hb dX7_even_23 rfl (lv_at hl 3 rfl) ?_
      refine g_callVU (nA := 2) hC V hl.1 (h_takeRow l D T h0 rb0 j_1 h1 qx qy ql h2 h3 qp rbh rbz rb1 rbs rbf) w_602 w_603 w_604 w_6 w_605 (by decide +kernel) rfl ⟨(Nat.le_of_ble_eq_true rfl), (Nat.le_of_ble_eq_true rfl)⟩ 10 (ci := 3) rfl rfl [10, 12, 4, 5] rfl rfl (Nat.le_of_ble_eq_true rfl) dX7_even_24 ⟨(Nat.le_of_ble_eq_true rfl), (Nat.le_of_ble_eq_true rfl)⟩ rfl (fun r w1 H locs hQ V => ?_)
      obtain ⟨g_13, rfl, rfl⟩ := hQ
      have V : gW D T A s [(o, .inr (7, [.ref n0, .ref s0, .ref im, .ref iz, .ref rw, .ref t0, .ref u0, .ref h0, .ref y0, sv])), (rw, .inl (T 5, 4, .inr (.inr (.inr (.inr (va_up (va_up (va_up (va_up (fun _ => none) 0 (some ra0)) 1 (some rb0)) 2 (some rc0)) 3 (some rd0))))))), (ra0, .inr (1, [.int rah, .int (nI raz), .ref ra1, .int (nI ras)])), (ra1, .inl (T 1, 40, .inr (.inl raf))), (rb0, .inr (1, [.int rbh, .int (nI rbz), .ref rb1, .int (nI rbs)])), (rb1, .inl (T 1, 40, .inr (.inl rbf))), (rc0, .inr (1, [.int rch, .int (nI rcz), .ref rc1, .int (nI rcs)])), (rc1, .inl (T 1, 40, .inr (.inl rcf))), (rd0, .inr (1, [.int rdh, .int (nI rdz), .ref rd1, .int (nI rds)])), (rd1, .inl (T 1, 40, .inr (.inl rdf))), (h0, .inr (3, [.ref h1, .int qx, .int qy, .int (nI j_1), .ref h2, .ref h3])), (h1, .inl (T 0, 10, .inl qb)), (h2, .inl (T 0, 10, .inl g_13)), (h3, .inl (T 0, 12, .inl qc)), (n0, .inr (5, [.int (nI nn), .int nm, .int nl, .int no, .int nu, .ref n1, .ref n2, .ref n3, .ref n4, .ref n5, .ref n6, .ref n7, .ref n8, .ref n9, .ref n10])), (n1, .inl (T 0, 10, .inl nf1)), (n2, .inl (T 0, 10, .inl nf2)), (n3, .inl (T 0, 10, .inl nf3)), (n4, .inl (T 0, 10, .inl nf4)), (n5, .inl (T 0, 10, .inl nf5)), (n9, .inl (T 0, 10, .inl nf9))] H locs := V _ [4, 0, 4, 1] rfl rfl rfl (by decide +kernel) rfl
      show W p l e _ s m args below meth c H locs _ _ _ (F0 m 27 ls [])
      refine lv_aload_n hx hb dX7_even_27 rfl (lv_at hl 1 rfl) ?_
      refine g_get hC V (ci := 7) uwX7 0 rfl rfl 7 (by decide) w_256 rfl rfl dX7_even_28 ?_
      refine lv_aload_n hx hb dX7_even_31 rfl (lv_at hl 1 rfl) ?_
      refine g_get hC V (ci := 7) uwX7 0 rfl rfl 0 (by decide) w_249 rfl rfl dX7_even_32 ?_
      refine g_callVU (nA := 1) hC V hl.1 (h_evenOnes l D T h0 n0 h1 qx qy j_1 h2 h3 g_13 qc nn nm nl no nu n1 n2 n3 n4 n5 n6 n7 n8 n9 n10 nf1 nf2 nf9 (by first | assumption | omega) ⟨by omega, by omega⟩) w_629 w_630 w_631 w_6 w_632 (by decide +kernel) rfl ⟨(Nat.le_of_ble_eq_true rfl), (Nat.le_of_ble_eq_true rfl)⟩ 10 (ci := 3) rfl rfl [10, 12, 13, 14, 15, 16, 20] rfl rfl (Nat.le_of_ble_eq_true rfl) dX7_even_35 ⟨(Nat.le_of_ble_eq_true rfl), (Nat.le_of_ble_eq_true rfl)⟩ rfl (fun r w1 H locs hQ V => ?_)
      obtain ⟨z_14, g_15, rfl, rfl⟩ := hQ
      have V : gW D T A s [(o, .inr (7, [.ref n0, .ref s0, .ref im, .ref iz, .ref rw, .ref t0, .ref u0, .ref h0, .ref y0, sv])), (rw, .inl (T 5, 4, .inr (.inr (.inr (.inr (va_up (va_up (va_up (va_up (fun _ => none) 0 (some ra0)) 1 (some rb0)) 2 (some rc0)) 3 (some rd0))))))), (ra0, .inr (1, [.int rah, .int (nI raz), .ref ra1, .int (nI ras)])), (ra1, .inl (T 1, 40, .inr (.inl raf))), (rb0, .inr (1, [.int rbh, .int (nI rbz), .ref rb1, .int (nI rbs)])), (rb1, .inl (T 1, 40, .inr (.inl rbf))), (rc0, .inr (1, [.int rch, .int (nI rcz), .ref rc1, .int (nI rcs)])), (rc1, .inl (T 1, 40, .inr (.inl rcf))), (rd0, .inr (1, [.int rdh, .int (nI rdz), .ref rd1, .int (nI rds)])), (rd1, .inl (T 1, 40, .inr (.inl rdf))), (h0, .inr (3, [.ref h1, .int qx, .int qy, .int (nI j_1), .ref h2, .ref h3])), (h1, .inl (T 0, 10, .inl qb)), (h2, .inl (T 0, 10, .inl g_13)), (h3, .inl (T 0, 12, .inl g_15)), (n0, .inr (5, [.int (nI nn), .int nm, .int nl, .int no, .int nu, .ref n1, .ref n2, .ref n3, .ref n4, .ref n5, .ref n6, .ref n7, .ref n8, .ref n9, .ref n10])), (n1, .inl (T 0, 10, .inl nf1)), (n2, .inl (T 0, 10, .inl nf2)), (n3, .inl (T 0, 10, .inl nf3)), (n4, .inl (T 0, 10, .inl nf4)), (n5, .inl (T 0, 10, .inl nf5)), (n9, .inl (T 0, 10, .inl nf9))] H locs := V _ [10, 1, 0, 0, 0, 0, 3] rfl rfl rfl (by decide +kernel) rfl
      show W p l e _ s m args below meth c H locs _ _ _ (F0 m 38 ls [.int z_14])
      exact g_iret (Qr := (q_x_even T o row le n0 s0 im iz rw t0 u0 h0 y0 sv ra0 rb0 rc0 rd0 rah raz ra1 ras raf rbh rbz rb1 rbs rbf rch rcz rc1 rcs rcf rdh rdz rd1 rds rdf h1 qx qy ql h2 h3 qb qp qc nn nm nl no nu n1 n2 n3 n4 n5 n6 n7 n8 n9 n10 nf1 nf2 nf3 nf4 nf5 nf9)) hC V ⟨(Nat.le_of_ble_eq_true rfl), (Nat.le_of_ble_eq_true rfl)⟩ ⟨z_14, qx, qy, (nI j_1), qb, g_13, g_15, rfl, rfl⟩ dX7_even_38
    · skip
      refine lv_istore_n (lv' := [(3, .int (nI 0)), (0, .ref o), (1, .int (nI 2)), (2, .int (nI j_1))]) hx hb dX7_even_6 rfl hl (by decide) rfl (fun ls hl => ?_)
      refine lv_iload_n hx hb dX7_even_7 rfl (lv_at hl 0 rfl) ?_
      refine lv_if_eq (tgt := 13) hx hb dX7_even_8 (by decide) (fun _ => ?_) (fun c => absurd (show (nI 0) = 0 by decide +kernel) c)
      refine lv_aload_n hx hb dX7_even_13 rfl (lv_at hl 1 rfl) ?_
      refine g_get hC V (ci := 7) uwX7 0 rfl rfl 7 (by decide) w_256 rfl rfl dX7_even_14 ?_
      refine lv_aload_n hx hb dX7_even_17 rfl (lv_at hl 1 rfl) ?_
      refine g_get hC V (ci := 7) uwX7 0 rfl rfl 4 (by decide) w_253 rfl rfl dX7_even_18 ?_
      refine lv_iload_n hx hb dX7_even_21 rfl (lv_at hl 2 rfl) ?_
      refine g_aald hC V 1 5 rfl rfl (vp_in_nI (by decide) (by decide)) (v := .ref rc0) (by rw [nI_clamp (by decide)]; rfl) dX7_even_22 ?_
      refine lv_iload_n hx hb dX7_even_23 rfl (lv_at hl 3 rfl) ?_
      refine g_callVU (nA := 2) hC V hl.1 (h_takeRow l D T h0 rc0 j_1 h1 qx qy ql h2 h3 qp rch rcz rc1 rcs rcf) w_602 w_603 w_604 w_6 w_605 (by decide +kernel) rfl ⟨(Nat.le_of_ble_eq_true rfl), (Nat.le_of_ble_eq_true rfl)⟩ 10 (ci := 3) rfl rfl [10, 12, 6, 7] rfl rfl (Nat.le_of_ble_eq_true rfl) dX7_even_24 ⟨(Nat.le_of_ble_eq_true rfl), (Nat.le_of_ble_eq_true rfl)⟩ rfl (fun r w1 H locs hQ V => ?_)
      obtain ⟨g_16, rfl, rfl⟩ := hQ
      have V : gW D T A s [(o, .inr (7, [.ref n0, .ref s0, .ref im, .ref iz, .ref rw, .ref t0, .ref u0, .ref h0, .ref y0, sv])), (rw, .inl (T 5, 4, .inr (.inr (.inr (.inr (va_up (va_up (va_up (va_up (fun _ => none) 0 (some ra0)) 1 (some rb0)) 2 (some rc0)) 3 (some rd0))))))), (ra0, .inr (1, [.int rah, .int (nI raz), .ref ra1, .int (nI ras)])), (ra1, .inl (T 1, 40, .inr (.inl raf))), (rb0, .inr (1, [.int rbh, .int (nI rbz), .ref rb1, .int (nI rbs)])), (rb1, .inl (T 1, 40, .inr (.inl rbf))), (rc0, .inr (1, [.int rch, .int (nI rcz), .ref rc1, .int (nI rcs)])), (rc1, .inl (T 1, 40, .inr (.inl rcf))), (rd0, .inr (1, [.int rdh, .int (nI rdz), .ref rd1, .int (nI rds)])), (rd1, .inl (T 1, 40, .inr (.inl rdf))), (h0, .inr (3, [.ref h1, .int qx, .int qy, .int (nI j_1), .ref h2, .ref h3])), (h1, .inl (T 0, 10, .inl qb)), (h2, .inl (T 0, 10, .inl g_16)), (h3, .inl (T 0, 12, .inl qc)), (n0, .inr (5, [.int (nI nn), .int nm, .int nl, .int no, .int nu, .ref n1, .ref n2, .ref n3, .ref n4, .ref n5, .ref n6, .ref n7, .ref n8, .ref n9, .ref n10])), (n1, .inl (T 0, 10, .inl nf1)), (n2, .inl (T 0, 10, .inl nf2)), (n3, .inl (T 0, 10, .inl nf3)), (n4, .inl (T 0, 10, .inl nf4)), (n5, .inl (T 0, 10, .inl nf5)), (n9, .inl (T 0, 10, .inl nf9))] H locs := V _ [6, 0, 2, 1] rfl rfl rfl (by decide +kernel) rfl
      show W p l e _ s m args below meth c H locs _ _ _ (F0 m 27 ls [])
      refine lv_aload_n hx hb dX7_even_27 rfl (lv_at hl 1 rfl) ?_
      refine g_get hC V (ci := 7) uwX7 0 rfl rfl 7 (by decide) w_256 rfl rfl dX7_even_28 ?_
      refine lv_aload_n hx hb dX7_even_31 rfl (lv_at hl 1 rfl) ?_
      refine g_get hC V (ci := 7) uwX7 0 rfl rfl 0 (by decide) w_249 rfl rfl dX7_even_32 ?_
      refine g_callVU (nA := 1) hC V hl.1 (h_evenOnes l D T h0 n0 h1 qx qy j_1 h2 h3 g_16 qc nn nm nl no nu n1 n2 n3 n4 n5 n6 n7 n8 n9 n10 nf1 nf2 nf9 (by first | assumption | omega) ⟨by omega, by omega⟩) w_629 w_630 w_631 w_6 w_632 (by decide +kernel) rfl ⟨(Nat.le_of_ble_eq_true rfl), (Nat.le_of_ble_eq_true rfl)⟩ 10 (ci := 3) rfl rfl [10, 12, 13, 14, 15, 16, 20] rfl rfl (Nat.le_of_ble_eq_true rfl) dX7_even_35 ⟨(Nat.le_of_ble_eq_true rfl), (Nat.le_of_ble_eq_true rfl)⟩ rfl (fun r w1 H locs hQ V => ?_)
      obtain ⟨z_17, g_18, rfl, rfl⟩ := hQ
      have V : gW D T A s [(o, .inr (7, [.ref n0, .ref s0, .ref im, .ref iz, .ref rw, .ref t0, .ref u0, .ref h0, .ref y0, sv])), (rw, .inl (T 5, 4, .inr (.inr (.inr (.inr (va_up (va_up (va_up (va_up (fun _ => none) 0 (some ra0)) 1 (some rb0)) 2 (some rc0)) 3 (some rd0))))))), (ra0, .inr (1, [.int rah, .int (nI raz), .ref ra1, .int (nI ras)])), (ra1, .inl (T 1, 40, .inr (.inl raf))), (rb0, .inr (1, [.int rbh, .int (nI rbz), .ref rb1, .int (nI rbs)])), (rb1, .inl (T 1, 40, .inr (.inl rbf))), (rc0, .inr (1, [.int rch, .int (nI rcz), .ref rc1, .int (nI rcs)])), (rc1, .inl (T 1, 40, .inr (.inl rcf))), (rd0, .inr (1, [.int rdh, .int (nI rdz), .ref rd1, .int (nI rds)])), (rd1, .inl (T 1, 40, .inr (.inl rdf))), (h0, .inr (3, [.ref h1, .int qx, .int qy, .int (nI j_1), .ref h2, .ref h3])), (h1, .inl (T 0, 10, .inl qb)), (h2, .inl (T 0, 10, .inl g_16)), (h3, .inl (T 0, 12, .inl g_18)), (n0, .inr (5, [.int (nI nn), .int nm, .int nl, .int no, .int nu, .ref n1, .ref n2, .ref n3, .ref n4, .ref n5, .ref n6, .ref n7, .ref n8, .ref n9, .ref n10])), (n1, .inl (T 0, 10, .inl nf1)), (n2, .inl (T 0, 10, .inl nf2)), (n3, .inl (T 0, 10, .inl nf3)), (n4, .inl (T 0, 10, .inl nf4)), (n5, .inl (T 0, 10, .inl nf5)), (n9, .inl (T 0, 10, .inl nf9))] H locs := V _ [10, 1, 0, 0, 0, 0, 3] rfl rfl rfl (by decide +kernel) rfl
      show W p l e _ s m args below meth c H locs _ _ _ (F0 m 38 ls [.int z_17])
      exact g_iret (Qr := (q_x_even T o row le n0 s0 im iz rw t0 u0 h0 y0 sv ra0 rb0 rc0 rd0 rah raz ra1 ras raf rbh rbz rb1 rbs rbf rch rcz rc1 rcs rcf rdh rdz rd1 rds rdf h1 qx qy ql h2 h3 qb qp qc nn nm nl no nu n1 n2 n3 n4 n5 n6 n7 n8 n9 n10 nf1 nf2 nf3 nf4 nf5 nf9)) hC V ⟨(Nat.le_of_ble_eq_true rfl), (Nat.le_of_ble_eq_true rfl)⟩ ⟨z_17, qx, qy, (nI j_1), qb, g_16, g_18, rfl, rfl⟩ dX7_even_38
    · skip
      refine lv_istore_n (lv' := [(3, .int (nI 0)), (0, .ref o), (1, .int (nI 3)), (2, .int (nI j_1))]) hx hb dX7_even_6 rfl hl (by decide) rfl (fun ls hl => ?_)
      refine lv_iload_n hx hb dX7_even_7 rfl (lv_at hl 0 rfl) ?_
      refine lv_if_eq (tgt := 13) hx hb dX7_even_8 (by decide) (fun _ => ?_) (fun c => absurd (show (nI 0) = 0 by decide +kernel) c)
      refine lv_aload_n hx hb dX7_even_13 rfl (lv_at hl 1 rfl) ?_
      refine g_get hC V (ci := 7) uwX7 0 rfl rfl 7 (by decide) w_256 rfl rfl dX7_even_14 ?_
      refine lv_aload_n hx hb dX7_even_17 rfl (lv_at hl 1 rfl) ?_
      refine g_get hC V (ci := 7) uwX7 0 rfl rfl 4 (by decide) w_253 rfl rfl dX7_even_18 ?_
      refine lv_iload_n hx hb dX7_even_21 rfl (lv_at hl 2 rfl) ?_
      refine g_aald hC V 1 5 rfl rfl (vp_in_nI (by decide) (by decide)) (v := .ref rd0) (by rw [nI_clamp (by decide)]; rfl) dX7_even_22 ?_
      refine lv_iload_n hx hb dX7_even_23 rfl (lv_at hl 3 rfl) ?_
      refine g_callVU (nA := 2) hC V hl.1 (h_takeRow l D T h0 rd0 j_1 h1 qx qy ql h2 h3 qp rdh rdz rd1 rds rdf) w_602 w_603 w_604 w_6 w_605 (by decide +kernel) rfl ⟨(Nat.le_of_ble_eq_true rfl), (Nat.le_of_ble_eq_true rfl)⟩ 10 (ci := 3) rfl rfl [10, 12, 8, 9] rfl rfl (Nat.le_of_ble_eq_true rfl) dX7_even_24 ⟨(Nat.le_of_ble_eq_true rfl), (Nat.le_of_ble_eq_true rfl)⟩ rfl (fun r w1 H locs hQ V => ?_)
      obtain ⟨g_19, rfl, rfl⟩ := hQ
      have V : gW D T A s [(o, .inr (7, [.ref n0, .ref s0, .ref im, .ref iz, .ref rw, .ref t0, .ref u0, .ref h0, .ref y0, sv])), (rw, .inl (T 5, 4, .inr (.inr (.inr (.inr (va_up (va_up (va_up (va_up (fun _ => none) 0 (some ra0)) 1 (some rb0)) 2 (some rc0)) 3 (some rd0))))))), (ra0, .inr (1, [.int rah, .int (nI raz), .ref ra1, .int (nI ras)])), (ra1, .inl (T 1, 40, .inr (.inl raf))), (rb0, .inr (1, [.int rbh, .int (nI rbz), .ref rb1, .int (nI rbs)])), (rb1, .inl (T 1, 40, .inr (.inl rbf))), (rc0, .inr (1, [.int rch, .int (nI rcz), .ref rc1, .int (nI rcs)])), (rc1, .inl (T 1, 40, .inr (.inl rcf))), (rd0, .inr (1, [.int rdh, .int (nI rdz), .ref rd1, .int (nI rds)])), (rd1, .inl (T 1, 40, .inr (.inl rdf))), (h0, .inr (3, [.ref h1, .int qx, .int qy, .int (nI j_1), .ref h2, .ref h3])), (h1, .inl (T 0, 10, .inl qb)), (h2, .inl (T 0, 10, .inl g_19)), (h3, .inl (T 0, 12, .inl qc)), (n0, .inr (5, [.int (nI nn), .int nm, .int nl, .int no, .int nu, .ref n1, .ref n2, .ref n3, .ref n4, .ref n5, .ref n6, .ref n7, .ref n8, .ref n9, .ref n10])), (n1, .inl (T 0, 10, .inl nf1)), (n2, .inl (T 0, 10, .inl nf2)), (n3, .inl (T 0, 10, .inl nf3)), (n4, .inl (T 0, 10, .inl nf4)), (n5, .inl (T 0, 10, .inl nf5)), (n9, .inl (T 0, 10, .inl nf9))] H locs := V _ [8, 0, 0, 1] rfl rfl rfl (by decide +kernel) rfl
      show W p l e _ s m args below meth c H locs _ _ _ (F0 m 27 ls [])
      refine lv_aload_n hx hb dX7_even_27 rfl (lv_at hl 1 rfl) ?_
      refine g_get hC V (ci := 7) uwX7 0 rfl rfl 7 (by decide) w_256 rfl rfl dX7_even_28 ?_
      refine lv_aload_n hx hb dX7_even_31 rfl (lv_at hl 1 rfl) ?_
      refine g_get hC V (ci := 7) uwX7 0 rfl rfl 0 (by decide) w_249 rfl rfl dX7_even_32 ?_
      refine g_callVU (nA := 1) hC V hl.1 (h_evenOnes l D T h0 n0 h1 qx qy j_1 h2 h3 g_19 qc nn nm nl no nu n1 n2 n3 n4 n5 n6 n7 n8 n9 n10 nf1 nf2 nf9 (by first | assumption | omega) ⟨by omega, by omega⟩) w_629 w_630 w_631 w_6 w_632 (by decide +kernel) rfl ⟨(Nat.le_of_ble_eq_true rfl), (Nat.le_of_ble_eq_true rfl)⟩ 10 (ci := 3) rfl rfl [10, 12, 13, 14, 15, 16, 20] rfl rfl (Nat.le_of_ble_eq_true rfl) dX7_even_35 ⟨(Nat.le_of_ble_eq_true rfl), (Nat.le_of_ble_eq_true rfl)⟩ rfl (fun r w1 H locs hQ V => ?_)
      obtain ⟨z_20, g_21, rfl, rfl⟩ := hQ
      have V : gW D T A s [(o, .inr (7, [.ref n0, .ref s0, .ref im, .ref iz, .ref rw, .ref t0, .ref u0, .ref h0, .ref y0, sv])), (rw, .inl (T 5, 4, .inr (.inr (.inr (.inr (va_up (va_up (va_up (va_up (fun _ => none) 0 (some ra0)) 1 (some rb0)) 2 (some rc0)) 3 (some rd0))))))), (ra0, .inr (1, [.int rah, .int (nI raz), .ref ra1, .int (nI ras)])), (ra1, .inl (T 1, 40, .inr (.inl raf))), (rb0, .inr (1, [.int rbh, .int (nI rbz), .ref rb1, .int (nI rbs)])), (rb1, .inl (T 1, 40, .inr (.inl rbf))), (rc0, .inr (1, [.int rch, .int (nI rcz), .ref rc1, .int (nI rcs)])), (rc1, .inl (T 1, 40, .inr (.inl rcf))), (rd0, .inr (1, [.int rdh, .int (nI rdz), .ref rd1, .int (nI rds)])), (rd1, .inl (T 1, 40, .inr (.inl rdf))), (h0, .inr (3, [.ref h1, .int qx, .int qy, .int (nI j_1), .ref h2, .ref h3])), (h1, .inl (T 0, 10, .inl qb)), (h2, .inl (T 0, 10, .inl g_19)), (h3, .inl (T 0, 12, .inl g_21)), (n0, .inr (5, [.int (nI nn), .int nm, .int nl, .int no, .int nu, .ref n1, .ref n2, .ref n3, .ref n4, .ref n5, .ref n6, .ref n7, .ref n8, .ref n9, .ref n10])), (n1, .inl (T 0, 10, .inl nf1)), (n2, .inl (T 0, 10, .inl nf2)), (n3, .inl (T 0, 10, .inl nf3)), (n4, .inl (T 0, 10, .inl nf4)), (n5, .inl (T 0, 10, .inl nf5)), (n9, .inl (T 0, 10, .inl nf9))] H locs := V _ [10, 1, 0, 0, 0, 0, 3] rfl rfl rfl (by decide +kernel) rfl
      show W p l e _ s m args below meth c H locs _ _ _ (F0 m 38 ls [.int z_20])
      exact g_iret (Qr := (q_x_even T o row le n0 s0 im iz rw t0 u0 h0 y0 sv ra0 rb0 rc0 rd0 rah raz ra1 ras raf rbh rbz rb1 rbs rbf rch rcz rc1 rcs rcf rdh rdz rd1 rds rdf h1 qx qy ql h2 h3 qb qp qc nn nm nl no nu n1 n2 n3 n4 n5 n6 n7 n8 n9 n10 nf1 nf2 nf3 nf4 nf5 nf9)) hC V ⟨(Nat.le_of_ble_eq_true rfl), (Nat.le_of_ble_eq_true rfl)⟩ ⟨z_20, qx, qy, (nI j_1), qb, g_19, g_21, rfl, rfl⟩ dX7_even_38
  · have V : gW D T A s [(o, .inr (7, [.ref n0, .ref s0, .ref im, .ref iz, .ref rw, .ref t0, .ref u0, .ref h0, .ref y0, sv])), (rw, .inl (T 5, 4, .inr (.inr (.inr (.inr (va_up (va_up (va_up (va_up (fun _ => none) 0 (some ra0)) 1 (some rb0)) 2 (some rc0)) 3 (some rd0))))))), (ra0, .inr (1, [.int rah, .int (nI raz), .ref ra1, .int (nI ras)])), (ra1, .inl (T 1, 40, .inr (.inl raf))), (rb0, .inr (1, [.int rbh, .int (nI rbz), .ref rb1, .int (nI rbs)])), (rb1, .inl (T 1, 40, .inr (.inl rbf))), (rc0, .inr (1, [.int rch, .int (nI rcz), .ref rc1, .int (nI rcs)])), (rc1, .inl (T 1, 40, .inr (.inl rcf))), (rd0, .inr (1, [.int rdh, .int (nI rdz), .ref rd1, .int (nI rds)])), (rd1, .inl (T 1, 40, .inr (.inl rdf))), (h0, .inr (3, [.ref h1, .int qx, .int qy, .int ql, .ref h2, .ref h3])), (h1, .inl (T 0, 10, .inl qb)), (h2, .inl (T 0, 10, .inl qp)), (h3, .inl (T 0, 12, .inl qc)), (n0, .inr (5, [.int (nI nn), .int nm, .int nl, .int no, .int nu, .ref n1, .ref n2, .ref n3, .ref n4, .ref n5, .ref n6, .ref n7, .ref n8, .ref n9, .ref n10])), (n1, .inl (T 0, 10, .inl nf1)), (n2, .inl (T 0, 10, .inl nf2)), (n3, .inl (T 0, 10, .inl nf3)), (n4, .inl (T 0, 10, .inl nf4)), (n5, .inl (T 0, 10, .inl nf5)), (n9, .inl (T 0, 10, .inl nf9))] H locs := V _ [0, 0, 0, 0, 0, 0, 0, 0, 0, 0, 4] rfl rfl rfl (by decide +kernel) rfl
    show W p l e _ s m args below meth c H locs _ _ _ (F0 m 6 ls [.int z_7])
    refine lv_istore_n (lv' := [(3, .int z_7), (0, .ref o), (1, .int row), (2, .int le)]) hx hb dX7_even_6 rfl hl (by decide) rfl (fun ls hl => ?_)
    refine lv_iload_n hx hb dX7_even_7 rfl (lv_at hl 0 rfl) ?_
    refine lv_if_eq (tgt := 13) hx hb dX7_even_8 (by decide) (fun c_22 => ?_) (fun c_22 => ?_)
    · skip
      exact (absurd c_22 (by assumption) : False).elim
    · skip
      refine lv_iload_n hx hb dX7_even_11 rfl (lv_at hl 0 rfl) ?_
      exact g_iret (Qr := (q_x_even T o row le n0 s0 im iz rw t0 u0 h0 y0 sv ra0 rb0 rc0 rd0 rah raz ra1 ras raf rbh rbz rb1 rbs rbf rch rcz rc1 rcs rcf rdh rdz rd1 rds rdf h1 qx qy ql h2 h3 qb qp qc nn nm nl no nu n1 n2 n3 n4 n5 n6 n7 n8 n9 n10 nf1 nf2 nf3 nf4 nf5 nf9)) hC V ⟨(Nat.le_of_ble_eq_true rfl), (Nat.le_of_ble_eq_true rfl)⟩ ⟨z_7, qx, qy, ql, qb, qp, qc, rfl, rfl⟩ dX7_even_12

def q_x_waveBreaks (T : Nat → ClassId) (o : Nat) (le : Nat) (step : Int32) (n0 : Nat) (s0 : Nat) (im : Nat) (iz : Nat) (rw : Nat) (t0 : Nat) (u0 : Nat) (h0 : Nat) (y0 : Nat) (sv : Value) (h1 : Nat) (qx : Int32) (qy : Int32) (ql : Int32) (h2 : Nat) (h3 : Nat) (qb : Nat → Int32) (qp : Nat → Int32) (qc : Nat → Int32) (nn : Nat) (nm : Int32) (nl : Int32) (no : Int32) (nu : Int32) (n1 : Nat) (n2 : Nat) (n3 : Nat) (n4 : Nat) (n5 : Nat) (n6 : Nat) (n7 : Nat) (n8 : Nat) (n9 : Nat) (n10 : Nat) (nf1 : Nat → Int32) (nf2 : Nat → Int32) (nf3 : Nat → Int32) (nf4 : Nat → Int32) (nf5 : Nat → Int32) (nf9 : Nat → Int32) : Option Value → va_W → Prop := fun rr ww => (∃ (z : Int32) (x1 : Int32) (x2 : Int32) (x3 : Int32) (k1 : Nat → Int32) (k2 : Nat → Int32) (k3 : Nat → Int32), rr = some (.int z) ∧ ww = [(o, .inr (7, [.ref n0, .ref s0, .ref im, .ref iz, .ref rw, .ref t0, .ref u0, .ref h0, .ref y0, sv])), (h0, .inr (3, [.ref h1, .int x1, .int x2, .int x3, .ref h2, .ref h3])), (h1, .inl (T 0, 10, .inl k1)), (h2, .inl (T 0, 10, .inl k2)), (h3, .inl (T 0, 12, .inl k3)), (n0, .inr (5, [.int (nI nn), .int nm, .int nl, .int no, .int nu, .ref n1, .ref n2, .ref n3, .ref n4, .ref n5, .ref n6, .ref n7, .ref n8, .ref n9, .ref n10])), (n1, .inl (T 0, 10, .inl nf1)), (n2, .inl (T 0, 10, .inl nf2)), (n3, .inl (T 0, 10, .inl nf3)), (n4, .inl (T 0, 10, .inl nf4)), (n5, .inl (T 0, 10, .inl nf5)), (n9, .inl (T 0, 10, .inl nf9))])
set_option maxHeartbeats 4000000 in
set_option maxRecDepth 100000 in
theorem x_waveBreaks (l : Launch) (D : va_G) (T : Nat → ClassId) (o : Nat) (le : Nat) (step : Int32) (n0 : Nat) (s0 : Nat) (im : Nat) (iz : Nat) (rw : Nat) (t0 : Nat) (u0 : Nat) (h0 : Nat) (y0 : Nat) (sv : Value) (h1 : Nat) (qx : Int32) (qy : Int32) (ql : Int32) (h2 : Nat) (h3 : Nat) (qb : Nat → Int32) (qp : Nat → Int32) (qc : Nat → Int32) (nn : Nat) (nm : Int32) (nl : Int32) (no : Int32) (nu : Int32) (n1 : Nat) (n2 : Nat) (n3 : Nat) (n4 : Nat) (n5 : Nat) (n6 : Nat) (n7 : Nat) (n8 : Nat) (n9 : Nat) (n10 : Nat) (nf1 : Nat → Int32) (nf2 : Nat → Int32) (nf3 : Nat → Int32) (nf4 : Nat → Int32) (nf5 : Nat → Int32) (nf9 : Nat → Int32) (h_n : nn ≤ 10) (h_l : 1 ≤ le ∧ le ≤ 12) : Ct l yX7_waveBreaksBehind cX7_waveBreaksBehind 3 (some .int) 4 0 0 D T [.ref o, .int (nI le), .int step] [(o, .inr (7, [.ref n0, .ref s0, .ref im, .ref iz, .ref rw, .ref t0, .ref u0, .ref h0, .ref y0, sv])), (h0, .inr (3, [.ref h1, .int qx, .int qy, .int ql, .ref h2, .ref h3])), (h1, .inl (T 0, 10, .inl qb)), (h2, .inl (T 0, 10, .inl qp)), (h3, .inl (T 0, 12, .inl qc)), (n0, .inr (5, [.int (nI nn), .int nm, .int nl, .int no, .int nu, .ref n1, .ref n2, .ref n3, .ref n4, .ref n5, .ref n6, .ref n7, .ref n8, .ref n9, .ref n10])), (n1, .inl (T 0, 10, .inl nf1)), (n2, .inl (T 0, 10, .inl nf2)), (n3, .inl (T 0, 10, .inl nf3)), (n4, .inl (T 0, 10, .inl nf4)), (n5, .inl (T 0, 10, .inl nf5)), (n9, .inl (T 0, 10, .inl nf9))] (q_x_waveBreaks T o le step n0 s0 im iz rw t0 u0 h0 y0 sv h1 qx qy ql h2 h3 qb qp qc nn nm nl no nu n1 n2 n3 n4 n5 n6 n7 n8 n9 n10 nf1 nf2 nf3 nf4 nf5 nf9) := by
  refine Ct.of (cc := cX7_waveBreaksBehind) (maxL := 3) (ret := (some .int)) (by decide) (Nat.le_of_ble_eq_true rfl) ?_
  intro p e s m args below meth c A ls hC hnm V hl
  obtain ⟨hx, hb, hr, hml, hown, hts, hlocks⟩ := id hC
  generalize hH : s.heap = H at V ⊢
  clear hH
  have hl : lv_has ls 3 [(0, .ref o), (1, .int (nI le)), (2, .int step)] := hl
  generalize hlo : ([] : List Loc) = locs at V ⊢
  clear hlo
  refine lv_aload_n hx hb dX7_waveBreaksBehind_0 rfl (lv_at hl 0 rfl) ?_
  refine g_get hC V (ci := 7) uwX7 0 rfl rfl 7 (by decide) w_256 rfl rfl dX7_waveBreaksBehind_1 ?_
  refine lv_iload_n hx hb dX7_waveBreaksBehind_4 rfl (lv_at hl 1 rfl) ?_
  refine lv_iload_n hx hb dX7_waveBreaksBehind_5 rfl (lv_at hl 2 rfl) ?_
  refine g_callVU (nA := 2) hC V hl.1 (h_takeWave l D T h0 le step h1 qx qy ql h2 h3 qp (by first | assumption | omega)) w_641 w_642 w_643 w_6 w_644 (by decide +kernel) rfl ⟨(Nat.le_of_ble_eq_true rfl), (Nat.le_of_ble_eq_true rfl)⟩ 1 (ci := 3) rfl rfl [1, 3] rfl rfl (Nat.le_of_ble_eq_true rfl) dX7_waveBreaksBehind_6 ⟨(Nat.le_of_ble_eq_true rfl), (Nat.le_of_ble_eq_true rfl)⟩ rfl (fun r w1 H locs hQ V => ?_)
  obtain ⟨g_1, rfl, rfl⟩ := hQ
  have V : gW D T A s [(o, .inr (7, [.ref n0, .ref s0, .ref im, .ref iz, .ref rw, .ref t0, .ref u0, .ref h0, .ref y0, sv])), (h0, .inr (3, [.ref h1, .int qx, .int qy, .int (nI le), .ref h2, .ref h3])), (h1, .inl (T 0, 10, .inl qb)), (h2, .inl (T 0, 10, .inl g_1)), (h3, .inl (T 0, 12, .inl qc)), (n0, .inr (5, [.int (nI nn), .int nm, .int nl, .int no, .int nu, .ref n1, .ref n2, .ref n3, .ref n4, .ref n5, .ref n6, .ref n7, .ref n8, .ref n9, .ref n10])), (n1, .inl (T 0, 10, .inl nf1)), (n2, .inl (T 0, 10, .inl nf2)), (n3, .inl (T 0, 10, .inl nf3)), (n4, .inl (T 0, 10, .inl nf4)), (n5, .inl (T 0, 10, .inl nf5)), (n9, .inl (T 0, 10, .inl nf9))] H locs := V _ [1, 1] rfl rfl rfl (by decide +kernel) rfl
  show W p l e _ s m args below meth c H locs _ _ _ (F0 m 9 ls [])
  refine lv_aload_n hx hb dX7_waveBreaksBehind_9 rfl (lv_at hl 0 rfl) ?_
  refine g_get hC V (ci := 7) uwX7 0 rfl rfl 7 (by decide) w_256 rfl rfl dX7_waveBreaksBehind_10 ?_
  refine lv_aload_n hx hb dX7_waveBreaksBehind_13 rfl (lv_at hl 0 rfl) ?_
  refine g_get hC V (ci := 7) uwX7 0 rfl rfl 0 (by decide) w_249 rfl rfl dX7_waveBreaksBehind_14 ?_
  refine g_callVU (nA := 1) hC V hl.1 (h_judgeOn l D T h0 n0 h1 qx qy le h2 h3 g_1 qc nn nm nl no nu n1 n2 n3 n4 n5 n6 n7 n8 n9 n10 nf1 nf2 nf3 nf4 nf5 nf9 (by first | assumption | omega) ⟨by omega, by omega⟩) w_610 w_611 w_612 w_6 w_613 (by decide +kernel) rfl ⟨(Nat.le_of_ble_eq_true rfl), (Nat.le_of_ble_eq_true rfl)⟩ 1 (ci := 3) rfl rfl [1, 3, 4, 5, 6, 7, 8, 9, 10, 11] rfl rfl (Nat.le_of_ble_eq_true rfl) dX7_waveBreaksBehind_17 ⟨(Nat.le_of_ble_eq_true rfl), (Nat.le_of_ble_eq_true rfl)⟩ rfl (fun r w1 H locs hQ V => ?_)
  obtain ⟨x1_2, x2_3, g_4, rfl, rfl⟩ := hQ
  have V : gW D T A s [(o, .inr (7, [.ref n0, .ref s0, .ref im, .ref iz, .ref rw, .ref t0, .ref u0, .ref h0, .ref y0, sv])), (h0, .inr (3, [.ref h1, .int x1_2, .int x2_3, .int (nI le), .ref h2, .ref h3])), (h1, .inl (T 0, 10, .inl qb)), (h2, .inl (T 0, 10, .inl g_1)), (h3, .inl (T 0, 12, .inl g_4)), (n0, .inr (5, [.int (nI nn), .int nm, .int nl, .int no, .int nu, .ref n1, .ref n2, .ref n3, .ref n4, .ref n5, .ref n6, .ref n7, .ref n8, .ref n9, .ref n10])), (n1, .inl (T 0, 10, .inl nf1)), (n2, .inl (T 0, 10, .inl nf2)), (n3, .inl (T 0, 10, .inl nf3)), (n4, .inl (T 0, 10, .inl nf4)), (n5, .inl (T 0, 10, .inl nf5)), (n9, .inl (T 0, 10, .inl nf9))] H locs := V _ [1, 1, 0, 0, 0, 0, 0, 0, 0, 0] rfl rfl rfl (by decide +kernel) rfl
  show W p l e _ s m args below meth c H locs _ _ _ (F0 m 20 ls [])
  refine lv_aload_n hx hb dX7_waveBreaksBehind_20 rfl (lv_at hl 0 rfl) ?_
  refine g_get hC V (ci := 7) uwX7 0 rfl rfl 7 (by decide) w_256 rfl rfl dX7_waveBreaksBehind_21 ?_
  refine g_get hC V (ci := 3) uwX3 1 rfl rfl 1 (by decide) w_186 rfl rfl dX7_waveBreaksBehind_24 ?_
  exact g_iret (Qr := (q_x_waveBreaks T o le step n0 s0 im iz rw t0 u0 h0 y0 sv h1 qx qy ql h2 h3 qb qp qc nn nm nl no nu n1 n2 n3 n4 n5 n6 n7 n8 n9 n10 nf1 nf2 nf3 nf4 nf5 nf9)) hC V ⟨(Nat.le_of_ble_eq_true rfl), (Nat.le_of_ble_eq_true rfl)⟩ ⟨x1_2, x1_2, x2_3, (nI le), qb, g_1, g_4, rfl, rfl⟩ dX7_waveBreaksBehind_27

def q_x_wave (T : Nat → ClassId) (o : Nat) (le : Int32) (step : Int32) (n0 : Nat) (s0 : Nat) (im : Nat) (iz : Nat) (rw : Nat) (t0 : Nat) (u0 : Nat) (h0 : Nat) (y0 : Nat) (sv : Value) (h1 : Nat) (qx : Int32) (qy : Int32) (ql : Int32) (h2 : Nat) (h3 : Nat) (qb : Nat → Int32) (qp : Nat → Int32) (qc : Nat → Int32) (nn : Nat) (nm : Int32) (nl : Int32) (no : Int32) (nu : Int32) (n1 : Nat) (n2 : Nat) (n3 : Nat) (n4 : Nat) (n5 : Nat) (n6 : Nat) (n7 : Nat) (n8 : Nat) (n9 : Nat) (n10 : Nat) (nf1 : Nat → Int32) (nf2 : Nat → Int32) (nf3 : Nat → Int32) (nf4 : Nat → Int32) (nf5 : Nat → Int32) (nf9 : Nat → Int32) : Option Value → va_W → Prop := fun rr ww => (∃ (z : Int32) (x1 : Int32) (x2 : Int32) (x3 : Int32) (k1 : Nat → Int32) (k2 : Nat → Int32) (k3 : Nat → Int32), rr = some (.int z) ∧ ww = [(o, .inr (7, [.ref n0, .ref s0, .ref im, .ref iz, .ref rw, .ref t0, .ref u0, .ref h0, .ref y0, sv])), (h0, .inr (3, [.ref h1, .int x1, .int x2, .int x3, .ref h2, .ref h3])), (h1, .inl (T 0, 10, .inl k1)), (h2, .inl (T 0, 10, .inl k2)), (h3, .inl (T 0, 12, .inl k3)), (n0, .inr (5, [.int (nI nn), .int nm, .int nl, .int no, .int nu, .ref n1, .ref n2, .ref n3, .ref n4, .ref n5, .ref n6, .ref n7, .ref n8, .ref n9, .ref n10])), (n1, .inl (T 0, 10, .inl nf1)), (n2, .inl (T 0, 10, .inl nf2)), (n3, .inl (T 0, 10, .inl nf3)), (n4, .inl (T 0, 10, .inl nf4)), (n5, .inl (T 0, 10, .inl nf5)), (n9, .inl (T 0, 10, .inl nf9))])
set_option maxHeartbeats 4000000 in
set_option maxRecDepth 100000 in
theorem x_wave (l : Launch) (D : va_G) (T : Nat → ClassId) (o : Nat) (le : Int32) (step : Int32) (n0 : Nat) (s0 : Nat) (im : Nat) (iz : Nat) (rw : Nat) (t0 : Nat) (u0 : Nat) (h0 : Nat) (y0 : Nat) (sv : Value) (h1 : Nat) (qx : Int32) (qy : Int32) (ql : Int32) (h2 : Nat) (h3 : Nat) (qb : Nat → Int32) (qp : Nat → Int32) (qc : Nat → Int32) (nn : Nat) (nm : Int32) (nl : Int32) (no : Int32) (nu : Int32) (n1 : Nat) (n2 : Nat) (n3 : Nat) (n4 : Nat) (n5 : Nat) (n6 : Nat) (n7 : Nat) (n8 : Nat) (n9 : Nat) (n10 : Nat) (nf1 : Nat → Int32) (nf2 : Nat → Int32) (nf3 : Nat → Int32) (nf4 : Nat → Int32) (nf5 : Nat → Int32) (nf9 : Nat → Int32) (h_n : nn ≤ 10) : Ct l yX7_wave cX7_wave 3 (some .int) 5 0 0 D T [.ref o, .int le, .int step] [(o, .inr (7, [.ref n0, .ref s0, .ref im, .ref iz, .ref rw, .ref t0, .ref u0, .ref h0, .ref y0, sv])), (h0, .inr (3, [.ref h1, .int qx, .int qy, .int ql, .ref h2, .ref h3])), (h1, .inl (T 0, 10, .inl qb)), (h2, .inl (T 0, 10, .inl qp)), (h3, .inl (T 0, 12, .inl qc)), (n0, .inr (5, [.int (nI nn), .int nm, .int nl, .int no, .int nu, .ref n1, .ref n2, .ref n3, .ref n4, .ref n5, .ref n6, .ref n7, .ref n8, .ref n9, .ref n10])), (n1, .inl (T 0, 10, .inl nf1)), (n2, .inl (T 0, 10, .inl nf2)), (n3, .inl (T 0, 10, .inl nf3)), (n4, .inl (T 0, 10, .inl nf4)), (n5, .inl (T 0, 10, .inl nf5)), (n9, .inl (T 0, 10, .inl nf9))] (q_x_wave T o le step n0 s0 im iz rw t0 u0 h0 y0 sv h1 qx qy ql h2 h3 qb qp qc nn nm nl no nu n1 n2 n3 n4 n5 n6 n7 n8 n9 n10 nf1 nf2 nf3 nf4 nf5 nf9) := by
  refine Ct.of (cc := cX7_wave) (maxL := 3) (ret := (some .int)) (by decide) (Nat.le_of_ble_eq_true rfl) ?_
  intro p e s m args below meth c A ls hC hnm V hl
  obtain ⟨hx, hb, hr, hml, hown, hts, hlocks⟩ := id hC
  generalize hH : s.heap = H at V ⊢
  clear hH
  have hl : lv_has ls 3 [(0, .ref o), (1, .int le), (2, .int step)] := hl
  generalize hlo : ([] : List Loc) = locs at V ⊢
  clear hlo
  refine lv_iload_n hx hb dX7_wave_0 rfl (lv_at hl 1 rfl) ?_
  refine lv_iconst (v := (nI 1)) hx hb dX7_wave_1 (by decide +kernel) ?_
  refine lv_bipush (v := (nI 12)) hx hb dX7_wave_2 (by decide +kernel) ?_
  refine g_callSU (nA := 3) hC V hl.1 (c_isWithin l D T le (nI 1) (nI 12)) w_292 w_293 w_2 w_294 (by decide +kernel) rfl ⟨(Nat.le_of_ble_eq_true rfl), (Nat.le_of_ble_eq_true rfl)⟩ [] rfl rfl (Nat.le_of_ble_eq_true rfl) dX7_wave_4 ⟨(Nat.le_of_ble_eq_true rfl), (Nat.le_of_ble_eq_true rfl)⟩ rfl (fun r w1 H locs hQ V => ?_)
  rcases hQ with ⟨rfl, rfl, f_1, f_2⟩ | ⟨rfl, rfl, f_3⟩
  · have V : gW D T A s [(o, .inr (7, [.ref n0, .ref s0, .ref im, .ref iz, .ref rw, .ref t0, .ref u0, .ref h0, .ref y0, sv])), (h0, .inr (3, [.ref h1, .int qx, .int qy, .int ql, .ref h2, .ref h3])), (h1, .inl (T 0, 10, .inl qb)), (h2, .inl (T 0, 10, .inl qp)), (h3, .inl (T 0, 12, .inl qc)), (n0, .inr (5, [.int (nI nn), .int nm, .int nl, .int no, .int nu, .ref n1, .ref n2, .ref n3, .ref n4, .ref n5, .ref n6, .ref n7, .ref n8, .ref n9, .ref n10])), (n1, .inl (T 0, 10, .inl nf1)), (n2, .inl (T 0, 10, .inl nf2)), (n3, .inl (T 0, 10, .inl nf3)), (n4, .inl (T 0, 10, .inl nf4)), (n5, .inl (T 0, 10, .inl nf5)), (n9, .inl (T 0, 10, .inl nf9))] H locs := V _ [] rfl rfl rfl (by decide +kernel) rfl
    show W p l e _ s m args below meth c H locs _ _ _ (F0 m 7 ls [.int (nI 1)])
    obtain ⟨i, hi1, hi2, ei⟩ := g_rng (by first | decide | omega) (by first | decide | omega) f_1 f_2
    rw [ei] at hl
    refine lv_if_eq (tgt := 21) hx hb dX7_wave_7 (by decide) (fun c => absurd (show (nI 1) = 0 from c) (by decide +kernel)) (fun _ => ?_)
    refine lv_iload_n hx hb dX7_wave_10 rfl (lv_at hl 2 rfl) ?_
    refine lv_iconst (v := (nI 0)) hx hb dX7_wave_11 (by decide +kernel) ?_
    refine lv_iload_n hx hb dX7_wave_12 rfl (lv_at hl 1 rfl) ?_
    refine lv_iconst (v := (nI 1)) hx hb dX7_wave_13 (by decide +kernel) ?_
    refine lv_isub hx hb dX7_wave_14 ?_
    refine g_callSU (nA := 3) hC V hl.1 (c_isWithin l D T step (nI 0) ((nI i) - (nI 1))) w_292 w_293 w_2 w_294 (by decide +kernel) rfl ⟨(Nat.le_of_ble_eq_true rfl), (Nat.le_of_ble_eq_true rfl)⟩ [] rfl rfl (Nat.le_of_ble_eq_true rfl) dX7_wave_15 ⟨(Nat.le_of_ble_eq_true rfl), (Nat.le_of_ble_eq_true rfl)⟩ rfl (fun r w1 H locs hQ V => ?_)
    rcases hQ with ⟨rfl, rfl, f_4, f_5⟩ | ⟨rfl, rfl, f_6⟩
    · have V : gW D T A s [(o, .inr (7, [.ref n0, .ref s0, .ref im, .ref iz, .ref rw, .ref t0, .ref u0, .ref h0, .ref y0, sv])), (h0, .inr (3, [.ref h1, .int qx, .int qy, .int ql, .ref h2, .ref h3])), (h1, .inl (T 0, 10, .inl qb)), (h2, .inl (T 0, 10, .inl qp)), (h3, .inl (T 0, 12, .inl qc)), (n0, .inr (5, [.int (nI nn), .int nm, .int nl, .int no, .int nu, .ref n1, .ref n2, .ref n3, .ref n4, .ref n5, .ref n6, .ref n7, .ref n8, .ref n9, .ref n10])), (n1, .inl (T 0, 10, .inl nf1)), (n2, .inl (T 0, 10, .inl nf2)), (n3, .inl (T 0, 10, .inl nf3)), (n4, .inl (T 0, 10, .inl nf4)), (n5, .inl (T 0, 10, .inl nf5)), (n9, .inl (T 0, 10, .inl nf9))] H locs := V _ [] rfl rfl rfl (by decide +kernel) rfl
      show W p l e _ s m args below meth c H locs _ _ _ (F0 m 18 ls [.int (nI 1)])
      refine lv_if_ne (tgt := 24) hx hb dX7_wave_18 (by decide) (fun _ => ?_) (fun c => absurd (show (nI 1) = 0 from c) (by decide +kernel))
      refine lv_aload_n hx hb dX7_wave_24 rfl (lv_at hl 0 rfl) ?_
      refine lv_iload_n hx hb dX7_wave_25 rfl (lv_at hl 1 rfl) ?_
      refine lv_iload_n hx hb dX7_wave_26 rfl (lv_at hl 2 rfl) ?_
      refine g_callV (wr := []) (nA := 2) hC V hl.1 (x_waveBreaks l D T o i step n0 s0 im iz rw t0 u0 h0 y0 sv h1 qx qy ql h2 h3 qb qp qc nn nm nl no nu n1 n2 n3 n4 n5 n6 n7 n8 n9 n10 nf1 nf2 nf3 nf4 nf5 nf9 (by first | assumption | omega) ⟨by omega, by omega⟩) w_637 w_639 w_s20 w_2 w_640 (by decide +kernel) rfl ⟨(Nat.le_of_ble_eq_true rfl), (Nat.le_of_ble_eq_true rfl)⟩ 0 (ci := 7) rfl rfl [0, 1, 2, 3, 4, 5, 6, 7, 8, 9, 10, 11] [] rfl rfl rfl rfl (by decide) (Nat.le_of_ble_eq_true rfl) dX7_wave_27 ⟨(Nat.le_of_ble_eq_true rfl), (Nat.le_of_ble_eq_true rfl)⟩ rfl (fun r w1 H locs hQ V => ?_)
      obtain ⟨z_7, x1_8, x2_9, x3_10, k1_11, k2_12, k3_13, rfl, rfl⟩ := hQ
      have V : gW D T A s [(o, .inr (7, [.ref n0, .ref s0, .ref im, .ref iz, .ref rw, .ref t0, .ref u0, .ref h0, .ref y0, sv])), (h0, .inr (3, [.ref h1, .int x1_8, .int x2_9, .int x3_10, .ref h2, .ref h3])), (h1, .inl (T 0, 10, .inl k1_11)), (h2, .inl (T 0, 10, .inl k2_12)), (h3, .inl (T 0, 12, .inl k3_13)), (n0, .inr (5, [.int (nI nn), .int nm, .int nl, .int no, .int nu, .ref n1, .ref n2, .ref n3, .ref n4, .ref n5, .ref n6, .ref n7, .ref n8, .ref n9, .ref n10])), (n1, .inl (T 0, 10, .inl nf1)), (n2, .inl (T 0, 10, .inl nf2)), (n3, .inl (T 0, 10, .inl nf3)), (n4, .inl (T 0, 10, .inl nf4)), (n5, .inl (T 0, 10, .inl nf5)), (n9, .inl (T 0, 10, .inl nf9))] H locs := V
      show W p l e _ s m args below meth c H locs _ _ _ (F0 m 30 ls [.int z_7])
      exact g_iret (Qr := (q_x_wave T o le step n0 s0 im iz rw t0 u0 h0 y0 sv h1 qx qy ql h2 h3 qb qp qc nn nm nl no nu n1 n2 n3 n4 n5 n6 n7 n8 n9 n10 nf1 nf2 nf3 nf4 nf5 nf9)) hC V ⟨(Nat.le_of_ble_eq_true rfl), (Nat.le_of_ble_eq_true rfl)⟩ ⟨z_7, x1_8, x2_9, x3_10, k1_11, k2_12, k3_13, rfl, rfl⟩ dX7_wave_30
    · have V : gW D T A s [(o, .inr (7, [.ref n0, .ref s0, .ref im, .ref iz, .ref rw, .ref t0, .ref u0, .ref h0, .ref y0, sv])), (h0, .inr (3, [.ref h1, .int qx, .int qy, .int ql, .ref h2, .ref h3])), (h1, .inl (T 0, 10, .inl qb)), (h2, .inl (T 0, 10, .inl qp)), (h3, .inl (T 0, 12, .inl qc)), (n0, .inr (5, [.int (nI nn), .int nm, .int nl, .int no, .int nu, .ref n1, .ref n2, .ref n3, .ref n4, .ref n5, .ref n6, .ref n7, .ref n8, .ref n9, .ref n10])), (n1, .inl (T 0, 10, .inl nf1)), (n2, .inl (T 0, 10, .inl nf2)), (n3, .inl (T 0, 10, .inl nf3)), (n4, .inl (T 0, 10, .inl nf4)), (n5, .inl (T 0, 10, .inl nf5)), (n9, .inl (T 0, 10, .inl nf9))] H locs := V _ [] rfl rfl rfl (by decide +kernel) rfl
      show W p l e _ s m args below meth c H locs _ _ _ (F0 m 18 ls [.int (nI 0)])
      refine lv_if_ne (tgt := 24) hx hb dX7_wave_18 (by decide) (fun c => absurd (show (nI 0) = 0 by decide +kernel) c) (fun _ => ?_)
      refine lv_bipush (v := (-3)) hx hb dX7_wave_21 (by decide +kernel) ?_
      exact g_iret (Qr := (q_x_wave T o le step n0 s0 im iz rw t0 u0 h0 y0 sv h1 qx qy ql h2 h3 qb qp qc nn nm nl no nu n1 n2 n3 n4 n5 n6 n7 n8 n9 n10 nf1 nf2 nf3 nf4 nf5 nf9)) hC V ⟨(Nat.le_of_ble_eq_true rfl), (Nat.le_of_ble_eq_true rfl)⟩ ⟨(-3), qx, qy, ql, qb, qp, qc, rfl, rfl⟩ dX7_wave_23
  · have V : gW D T A s [(o, .inr (7, [.ref n0, .ref s0, .ref im, .ref iz, .ref rw, .ref t0, .ref u0, .ref h0, .ref y0, sv])), (h0, .inr (3, [.ref h1, .int qx, .int qy, .int ql, .ref h2, .ref h3])), (h1, .inl (T 0, 10, .inl qb)), (h2, .inl (T 0, 10, .inl qp)), (h3, .inl (T 0, 12, .inl qc)), (n0, .inr (5, [.int (nI nn), .int nm, .int nl, .int no, .int nu, .ref n1, .ref n2, .ref n3, .ref n4, .ref n5, .ref n6, .ref n7, .ref n8, .ref n9, .ref n10])), (n1, .inl (T 0, 10, .inl nf1)), (n2, .inl (T 0, 10, .inl nf2)), (n3, .inl (T 0, 10, .inl nf3)), (n4, .inl (T 0, 10, .inl nf4)), (n5, .inl (T 0, 10, .inl nf5)), (n9, .inl (T 0, 10, .inl nf9))] H locs := V _ [] rfl rfl rfl (by decide +kernel) rfl
    show W p l e _ s m args below meth c H locs _ _ _ (F0 m 7 ls [.int (nI 0)])
    refine lv_if_eq (tgt := 21) hx hb dX7_wave_7 (by decide) (fun _ => ?_) (fun c => absurd (show (nI 0) = 0 by decide +kernel) c)
    refine lv_bipush (v := (-3)) hx hb dX7_wave_21 (by decide +kernel) ?_
    exact g_iret (Qr := (q_x_wave T o le step n0 s0 im iz rw t0 u0 h0 y0 sv h1 qx qy ql h2 h3 qb qp qc nn nm nl no nu n1 n2 n3 n4 n5 n6 n7 n8 n9 n10 nf1 nf2 nf3 nf4 nf5 nf9)) hC V ⟨(Nat.le_of_ble_eq_true rfl), (Nat.le_of_ble_eq_true rfl)⟩ ⟨(-3), qx, qy, ql, qb, qp, qc, rfl, rfl⟩ dX7_wave_23

def q_x_bestWave (T : Nat → ClassId) (o : Nat) (le : Int32) (n0 : Nat) (s0 : Nat) (im : Nat) (iz : Nat) (rw : Nat) (t0 : Nat) (u0 : Nat) (h0 : Nat) (y0 : Nat) (sv : Value) (h1 : Nat) (qx : Int32) (qy : Int32) (ql : Int32) (h2 : Nat) (h3 : Nat) (qb : Nat → Int32) (qp : Nat → Int32) (qc : Nat → Int32) (nn : Nat) (nm : Int32) (nl : Int32) (no : Int32) (nu : Int32) (n1 : Nat) (n2 : Nat) (n3 : Nat) (n4 : Nat) (n5 : Nat) (n6 : Nat) (n7 : Nat) (n8 : Nat) (n9 : Nat) (n10 : Nat) (nf1 : Nat → Int32) (nf2 : Nat → Int32) (nf3 : Nat → Int32) (nf4 : Nat → Int32) (nf5 : Nat → Int32) (nf9 : Nat → Int32) : Option Value → va_W → Prop := fun rr ww => (∃ (z : Int32) (x1 : Int32) (x2 : Int32) (x3 : Int32) (k1 : Nat → Int32) (k2 : Nat → Int32) (k3 : Nat → Int32), rr = some (.int z) ∧ ww = [(o, .inr (7, [.ref n0, .ref s0, .ref im, .ref iz, .ref rw, .ref t0, .ref u0, .ref h0, .ref y0, sv])), (h0, .inr (3, [.ref h1, .int x1, .int x2, .int x3, .ref h2, .ref h3])), (h1, .inl (T 0, 10, .inl k1)), (h2, .inl (T 0, 10, .inl k2)), (h3, .inl (T 0, 12, .inl k3)), (n0, .inr (5, [.int (nI nn), .int nm, .int nl, .int no, .int nu, .ref n1, .ref n2, .ref n3, .ref n4, .ref n5, .ref n6, .ref n7, .ref n8, .ref n9, .ref n10])), (n1, .inl (T 0, 10, .inl nf1)), (n2, .inl (T 0, 10, .inl nf2)), (n3, .inl (T 0, 10, .inl nf3)), (n4, .inl (T 0, 10, .inl nf4)), (n5, .inl (T 0, 10, .inl nf5)), (n9, .inl (T 0, 10, .inl nf9))])
set_option maxHeartbeats 4000000 in
set_option maxRecDepth 100000 in
theorem x_bestWave (l : Launch) (D : va_G) (T : Nat → ClassId) (o : Nat) (le : Int32) (n0 : Nat) (s0 : Nat) (im : Nat) (iz : Nat) (rw : Nat) (t0 : Nat) (u0 : Nat) (h0 : Nat) (y0 : Nat) (sv : Value) (h1 : Nat) (qx : Int32) (qy : Int32) (ql : Int32) (h2 : Nat) (h3 : Nat) (qb : Nat → Int32) (qp : Nat → Int32) (qc : Nat → Int32) (nn : Nat) (nm : Int32) (nl : Int32) (no : Int32) (nu : Int32) (n1 : Nat) (n2 : Nat) (n3 : Nat) (n4 : Nat) (n5 : Nat) (n6 : Nat) (n7 : Nat) (n8 : Nat) (n9 : Nat) (n10 : Nat) (nf1 : Nat → Int32) (nf2 : Nat → Int32) (nf3 : Nat → Int32) (nf4 : Nat → Int32) (nf5 : Nat → Int32) (nf9 : Nat → Int32) (h_n : nn ≤ 10) : Ct l yX7_bestWave cX7_bestWave 6 (some .int) 5 0 0 D T [.ref o, .int le] [(o, .inr (7, [.ref n0, .ref s0, .ref im, .ref iz, .ref rw, .ref t0, .ref u0, .ref h0, .ref y0, sv])), (h0, .inr (3, [.ref h1, .int qx, .int qy, .int ql, .ref h2, .ref h3])), (h1, .inl (T 0, 10, .inl qb)), (h2, .inl (T 0, 10, .inl qp)), (h3, .inl (T 0, 12, .inl qc)), (n0, .inr (5, [.int (nI nn), .int nm, .int nl, .int no, .int nu, .ref n1, .ref n2, .ref n3, .ref n4, .ref n5, .ref n6, .ref n7, .ref n8, .ref n9, .ref n10])), (n1, .inl (T 0, 10, .inl nf1)), (n2, .inl (T 0, 10, .inl nf2)), (n3, .inl (T 0, 10, .inl nf3)), (n4, .inl (T 0, 10, .inl nf4)), (n5, .inl (T 0, 10, .inl nf5)), (n9, .inl (T 0, 10, .inl nf9))] (q_x_bestWave T o le n0 s0 im iz rw t0 u0 h0 y0 sv h1 qx qy ql h2 h3 qb qp qc nn nm nl no nu n1 n2 n3 n4 n5 n6 n7 n8 n9 n10 nf1 nf2 nf3 nf4 nf5 nf9) := by
  refine Ct.of (cc := cX7_bestWave) (maxL := 6) (ret := (some .int)) (by decide) (Nat.le_of_ble_eq_true rfl) ?_
  intro p e s m args below meth c A ls hC hnm V hl
  obtain ⟨hx, hb, hr, hml, hown, hts, hlocks⟩ := id hC
  generalize hH : s.heap = H at V ⊢
  clear hH
  have hl : lv_has ls 6 [(0, .ref o), (1, .int le)] := hl
  generalize hlo : ([] : List Loc) = locs at V ⊢
  clear hlo
  refine lv_iload_n hx hb dX7_bestWave_0 rfl (lv_at hl 1 rfl) ?_
  refine lv_iconst (v := (nI 1)) hx hb dX7_bestWave_1 (by decide +kernel) ?_
  refine lv_bipush (v := (nI 12)) hx hb dX7_bestWave_2 (by decide +kernel) ?_
  refine g_callSU (nA := 3) hC V hl.1 (c_isWithin l D T le (nI 1) (nI 12)) w_292 w_293 w_2 w_294 (by decide +kernel) rfl ⟨(Nat.le_of_ble_eq_true rfl), (Nat.le_of_ble_eq_true rfl)⟩ [] rfl rfl (Nat.le_of_ble_eq_true rfl) dX7_bestWave_4 ⟨(Nat.le_of_ble_eq_true rfl), (Nat.le_of_ble_eq_true rfl)⟩ rfl (fun r w1 H locs hQ V => ?_)
  rcases hQ with ⟨rfl, rfl, f_1, f_2⟩ | ⟨rfl, rfl, f_3⟩
  · have V : gW D T A s [(o, .inr (7, [.ref n0, .ref s0, .ref im, .ref iz, .ref rw, .ref t0, .ref u0, .ref h0, .ref y0, sv])), (h0, .inr (3, [.ref h1, .int qx, .int qy, .int ql, .ref h2, .ref h3])), (h1, .inl (T 0, 10, .inl qb)), (h2, .inl (T 0, 10, .inl qp)), (h3, .inl (T 0, 12, .inl qc)), (n0, .inr (5, [.int (nI nn), .int nm, .int nl, .int no, .int nu, .ref n1, .ref n2, .ref n3, .ref n4, .ref n5, .ref n6, .ref n7, .ref n8, .ref n9, .ref n10])), (n1, .inl (T 0, 10, .inl nf1)), (n2, .inl (T 0, 10, .inl nf2)), (n3, .inl (T 0, 10, .inl nf3)), (n4, .inl (T 0, 10, .inl nf4)), (n5, .inl (T 0, 10, .inl nf5)), (n9, .inl (T 0, 10, .inl nf9))] H locs := V _ [] rfl rfl rfl (by decide +kernel) rfl
    show W p l e _ s m args below meth c H locs _ _ _ (F0 m 7 ls [.int (nI 1)])
    obtain ⟨i, hi1, hi2, ei⟩ := g_rng (by first | decide | omega) (by first | decide | omega) f_1 f_2
    rw [ei] at hl
    refine lv_if_ne (tgt := 13) hx hb dX7_bestWave_7 (by decide) (fun _ => ?_) (fun c => absurd (show (nI 1) = 0 from c) (by decide +kernel))
    refine lv_iconst (v := (nI 0)) hx hb dX7_bestWave_13 (by decide +kernel) ?_
    refine lv_istore_n (lv' := [(2, .int (nI 0)), (0, .ref o), (1, .int (nI i))]) hx hb dX7_bestWave_14 rfl hl (by decide) rfl (fun ls hl => ?_)
    refine lv_iconst (v := (nI 0)) hx hb dX7_bestWave_15 (by decide +kernel) ?_
    refine lv_istore_n (lv' := [(3, .int (nI 0)), (2, .int (nI 0)), (0, .ref o), (1, .int (nI i))]) hx hb dX7_bestWave_16 rfl hl (by decide) rfl (fun ls hl => ?_)
    refine lv_iconst (v := (nI 0)) hx hb dX7_bestWave_17 (by decide +kernel) ?_
    refine lv_istore (lv' := [(4, .int (nI 0)), (3, .int (nI 0)), (2, .int (nI 0)), (0, .ref o), (1, .int (nI i))]) hx hb dX7_bestWave_18 hl (by decide) rfl (fun ls hl => ?_)
    have L_4 : ∀ (fu : Nat) (k20 : Nat) (x20_3 : Int32) (x20_2 : Int32) (w1 : Int32) (w2 : Int32) (w3 : Int32) (ga : Nat → Int32) (gb : Nat → Int32) (gc : Nat → Int32), k20 ≤ i → i - k20 < fu → ∀ (H : Heap) (locs : List Loc) (ls : Array Slot), gW D T A s [(o, .inr (7, [.ref n0, .ref s0, .ref im, .ref iz, .ref rw, .ref t0, .ref u0, .ref h0, .ref y0, sv])), (h0, .inr (3, [.ref h1, .int w1, .int w2, .int w3, .ref h2, .ref h3])), (h1, .inl (T 0, 10, .inl ga)), (h2, .inl (T 0, 10, .inl gb)), (h3, .inl (T 0, 12, .inl gc)), (n0, .inr (5, [.int (nI nn), .int nm, .int nl, .int no, .int nu, .ref n1, .ref n2, .ref n3, .ref n4, .ref n5, .ref n6, .ref n7, .ref n8, .ref n9, .ref n10])), (n1, .inl (T 0, 10, .inl nf1)), (n2, .inl (T 0, 10, .inl nf2)), (n3, .inl (T 0, 10, .inl nf3)), (n4, .inl (T 0, 10, .inl nf4)), (n5, .inl (T 0, 10, .inl nf5)), (n9, .inl (T 0, 10, .inl nf9))] H locs → lv_has ls 6 [(4, .int (nI k20)), (3, .int x20_3), (2, .int x20_2), (0, .ref o), (1, .int (nI i))] → W p l e (rmD 5 0 0) s m args below meth c H locs 0 0 (MQ below (gQ D A (q_x_bestWave T o le n0 s0 im iz rw t0 u0 h0 y0 sv h1 qx qy ql h2 h3 qb qp qc nn nm nl no nu n1 n2 n3 n4 n5 n6 n7 n8 n9 n10 nf1 nf2 nf3 nf4 nf5 nf9)) args s 0 0 A) (F0 m 20 ls []) := by
      intro fu_20
      induction fu_20 with
      | zero => intro k20 x20_3 x20_2 w1 w2 w3 ga gb gc hk20 hmu; exact absurd hmu (Nat.not_lt_zero _)
      | succ fu_20 ih_20 =>
        intro k20 x20_3 x20_2 w1 w2 w3 ga gb gc hk20 hmu_20 H locs ls V hl
        refine lv_iload hx hb dX7_bestWave_20 (lv_at hl 0 rfl) ?_
        refine lv_iload_n hx hb dX7_bestWave_22 rfl (lv_at hl 4 rfl) ?_
        refine lv_icmp_ge (tgt := 62) hx hb dX7_bestWave_23 (by decide) (fun c_5 => ?_) (fun c_5 => ?_)
        · skip
          have c_5 := b_le (by omega) (by omega) c_5
          refine lv_iload_n hx hb dX7_bestWave_62 rfl (lv_at hl 2 rfl) ?_
          exact g_iret (Qr := (q_x_bestWave T o le n0 s0 im iz rw t0 u0 h0 y0 sv h1 qx qy ql h2 h3 qb qp qc nn nm nl no nu n1 n2 n3 n4 n5 n6 n7 n8 n9 n10 nf1 nf2 nf3 nf4 nf5 nf9)) hC V ⟨(Nat.le_of_ble_eq_true rfl), (Nat.le_of_ble_eq_true rfl)⟩ ⟨x20_2, w1, w2, w3, ga, gb, gc, rfl, rfl⟩ dX7_bestWave_63
        · skip
          have c_5 := b_nle (by omega) (by omega) c_5
          refine lv_aload_n hx hb dX7_bestWave_26 rfl (lv_at hl 3 rfl) ?_
          refine lv_iload_n hx hb dX7_bestWave_27 rfl (lv_at hl 4 rfl) ?_
          refine lv_iload hx hb dX7_bestWave_28 (lv_at hl 0 rfl) ?_
          refine g_callV (wr := []) (nA := 2) hC V hl.1 (x_waveBreaks l D T o i (nI k20) n0 s0 im iz rw t0 u0 h0 y0 sv h1 w1 w2 w3 h2 h3 ga gb gc nn nm nl no nu n1 n2 n3 n4 n5 n6 n7 n8 n9 n10 nf1 nf2 nf3 nf4 nf5 nf9 (by first | assumption | omega) ⟨by omega, by omega⟩) w_637 w_639 w_s20 w_2 w_640 (by decide +kernel) rfl ⟨(Nat.le_of_ble_eq_true rfl), (Nat.le_of_ble_eq_true rfl)⟩ 0 (ci := 7) rfl rfl [0, 1, 2, 3, 4, 5, 6, 7, 8, 9, 10, 11] [] rfl rfl rfl rfl (by decide) (Nat.le_of_ble_eq_true rfl) dX7_bestWave_30 ⟨(Nat.le_of_ble_eq_true rfl), (Nat.le_of_ble_eq_true rfl)⟩ rfl (fun r w1 H locs hQ V => ?_)
          obtain ⟨z_6, x1_7, x2_8, x3_9, k1_10, k2_11, k3_12, rfl, rfl⟩ := hQ
          have V : gW D T A s [(o, .inr (7, [.ref n0, .ref s0, .ref im, .ref iz, .ref rw, .ref t0, .ref u0, .ref h0, .ref y0, sv])), (h0, .inr (3, [.ref h1, .int x1_7, .int x2_8, .int x3_9, .ref h2, .ref h3])), (h1, .inl (T 0, 10, .inl k1_10)), (h2, .inl (T 0, 10, .inl k2_11)), (h3, .inl (T 0, 12, .inl k3_12)), (n0, .inr (5, [.int (nI nn), .int nm, .int nl, .int no, .int nu, .ref n1, .ref n2, .ref n3, .ref n4, .ref n5, .ref n6, .ref n7, .ref n8, .ref n9, .ref n10])), (n1, .inl (T 0, 10, .inl nf1)), (n2, .inl (T 0, 10, .inl nf2)), (n3, .inl (T 0, 10, .inl nf3)), (n4, .inl (T 0, 10, .inl nf4)), (n5, .inl (T 0, 10, .inl nf5)), (n9, .inl (T 0, 10, .inl nf9))] H locs := V
          show W p l e _ s m args below meth c H locs _ _ _ (F0 m 33 ls [.int z_6])
          refine lv_istore (lv' := [(5, .int z_6), (4, .int (nI k20)), (3, .int x20_3), (2, .int x20_2), (0, .ref o), (1, .int (nI i))]) hx hb dX7_bestWave_33 hl (by decide) rfl (fun ls hl => ?_)
          refine lv_iload hx hb dX7_bestWave_35 (lv_at hl 0 rfl) ?_
          refine lv_iconst (v := (-1)) hx hb dX7_bestWave_37 (by decide +kernel) ?_
          refine lv_icmp_ne (tgt := 44) hx hb dX7_bestWave_38 (by decide) (fun c_13 => ?_) (fun c_13 => ?_)
          · skip
            refine lv_iload hx hb dX7_bestWave_44 (lv_at hl 0 rfl) ?_
            refine lv_iload_n hx hb dX7_bestWave_46 rfl (lv_at hl 2 rfl) ?_
            refine lv_icmp_le (tgt := 56) hx hb dX7_bestWave_47 (by decide) (fun c_14 => ?_) (fun c_14 => ?_)
            · skip
              refine lv_iinc (v := (nI (k20 + 1))) (lv' := [(4, .int (nI (k20 + 1))), (5, .int z_6), (3, .int x20_3), (2, .int x20_2), (0, .ref o), (1, .int (nI i))]) hx hb dX7_bestWave_56 hl (k := 1) rfl (nI_1 _) (by decide) rfl (fun ls hl => ?_)
              refine lv_goto (tgt := 20) hx hb dX7_bestWave_59 (by decide) ?_
              exact ih_20 (k20 + 1) x20_3 x20_2 x1_7 x2_8 x3_9 k1_10 k2_11 k3_12 (by omega) (by omega) _ _ _ V (lv_sub hl [0, 2, 3, 4, 5] rfl)
            · skip
              refine lv_iload hx hb dX7_bestWave_50 (lv_at hl 0 rfl) ?_
              refine lv_istore_n (lv' := [(3, .int z_6), (5, .int z_6), (4, .int (nI k20)), (2, .int x20_2), (0, .ref o), (1, .int (nI i))]) hx hb dX7_bestWave_52 rfl hl (by decide) rfl (fun ls hl => ?_)
              refine lv_iload hx hb dX7_bestWave_53 (lv_at hl 2 rfl) ?_
              refine lv_istore_n (lv' := [(2, .int (nI k20)), (3, .int z_6), (5, .int z_6), (4, .int (nI k20)), (0, .ref o), (1, .int (nI i))]) hx hb dX7_bestWave_55 rfl hl (by decide) rfl (fun ls hl => ?_)
              refine lv_iinc (v := (nI (k20 + 1))) (lv' := [(4, .int (nI (k20 + 1))), (2, .int (nI k20)), (3, .int z_6), (5, .int z_6), (0, .ref o), (1, .int (nI i))]) hx hb dX7_bestWave_56 hl (k := 3) rfl (nI_1 _) (by decide) rfl (fun ls hl => ?_)
              refine lv_goto (tgt := 20) hx hb dX7_bestWave_59 (by decide) ?_
              exact ih_20 (k20 + 1) z_6 (nI k20) x1_7 x2_8 x3_9 k1_10 k2_11 k3_12 (by omega) (by omega) _ _ _ V (lv_sub hl [0, 2, 1, 4, 5] rfl)
          · skip
            refine lv_iload hx hb dX7_bestWave_41 (lv_at hl 1 rfl) ?_
            exact g_iret (Qr := (q_x_bestWave T o le n0 s0 im iz rw t0 u0 h0 y0 sv h1 qx qy ql h2 h3 qb qp qc nn nm nl no nu n1 n2 n3 n4 n5 n6 n7 n8 n9 n10 nf1 nf2 nf3 nf4 nf5 nf9)) hC V ⟨(Nat.le_of_ble_eq_true rfl), (Nat.le_of_ble_eq_true rfl)⟩ ⟨(nI k20), x1_7, x2_8, x3_9, k1_10, k2_11, k3_12, rfl, rfl⟩ dX7_bestWave_43
    exact L_4 _ 0 (nI 0) (nI 0) qx qy ql qb qp qc (by omega) (Nat.lt_succ_self _) _ _ _ V (lv_sub hl [0, 1, 2, 3, 4] rfl)
  · have V : gW D T A s [(o, .inr (7, [.ref n0, .ref s0, .ref im, .ref iz, .ref rw, .ref t0, .ref u0, .ref h0, .ref y0, sv])), (h0, .inr (3, [.ref h1, .int qx, .int qy, .int ql, .ref h2, .ref h3])), (h1, .inl (T 0, 10, .inl qb)), (h2, .inl (T 0, 10, .inl qp)), (h3, .inl (T 0, 12, .inl qc)), (n0, .inr (5, [.int (nI nn), .int nm, .int nl, .int no, .int nu, .ref n1, .ref n2, .ref n3, .ref n4, .ref n5, .ref n6, .ref n7, .ref n8, .ref n9, .ref n10])), (n1, .inl (T 0, 10, .inl nf1)), (n2, .inl (T 0, 10, .inl nf2)), (n3, .inl (T 0, 10, .inl nf3)), (n4, .inl (T 0, 10, .inl nf4)), (n5, .inl (T 0, 10, .inl nf5)), (n9, .inl (T 0, 10, .inl nf9))] H locs := V _ [] rfl rfl rfl (by decide +kernel) rfl
    show W p l e _ s m args below meth c H locs _ _ _ (F0 m 7 ls [.int (nI 0)])
    refine lv_if_ne (tgt := 13) hx hb dX7_bestWave_7 (by decide) (fun c => absurd (show (nI 0) = 0 by decide +kernel) c) (fun _ => ?_)
    refine lv_bipush (v := (-3)) hx hb dX7_bestWave_10 (by decide +kernel) ?_
    exact g_iret (Qr := (q_x_bestWave T o le n0 s0 im iz rw t0 u0 h0 y0 sv h1 qx qy ql h2 h3 qb qp qc nn nm nl no nu n1 n2 n3 n4 n5 n6 n7 n8 n9 n10 nf1 nf2 nf3 nf4 nf5 nf9)) hC V ⟨(Nat.le_of_ble_eq_true rfl), (Nat.le_of_ble_eq_true rfl)⟩ ⟨(-3), qx, qy, ql, qb, qp, qc, rfl, rfl⟩ dX7_bestWave_12

def q_x_bestRound (T : Nat → ClassId) (o : Nat) (le : Int32) (wh : Int32) (n0 : Nat) (s0 : Nat) (im : Nat) (iz : Nat) (rw : Nat) (t0 : Nat) (u0 : Nat) (h0 : Nat) (y0 : Nat) (sv : Value) (h1 : Nat) (qx : Int32) (qy : Int32) (ql : Int32) (h2 : Nat) (h3 : Nat) (qb : Nat → Int32) (qp : Nat → Int32) (qc : Nat → Int32) (nn : Nat) (nm : Int32) (nl : Int32) (no : Int32) (nu : Int32) (n1 : Nat) (n2 : Nat) (n3 : Nat) (n4 : Nat) (n5 : Nat) (n6 : Nat) (n7 : Nat) (n8 : Nat) (n9 : Nat) (n10 : Nat) (nf1 : Nat → Int32) (nf2 : Nat → Int32) (nf3 : Nat → Int32) (nf4 : Nat → Int32) (nf5 : Nat → Int32) (nf9 : Nat → Int32) : Option Value → va_W → Prop := fun rr ww => (∃ (z : Int32) (x1 : Int32) (x2 : Int32) (x3 : Int32) (k1 : Nat → Int32) (k2 : Nat → Int32) (k3 : Nat → Int32), rr = some (.int z) ∧ ww = [(o, .inr (7, [.ref n0, .ref s0, .ref im, .ref iz, .ref rw, .ref t0, .ref u0, .ref h0, .ref y0, sv])), (h0, .inr (3, [.ref h1, .int x1, .int x2, .int x3, .ref h2, .ref h3])), (h1, .inl (T 0, 10, .inl k1)), (h2, .inl (T 0, 10, .inl k2)), (h3, .inl (T 0, 12, .inl k3)), (n0, .inr (5, [.int (nI nn), .int nm, .int nl, .int no, .int nu, .ref n1, .ref n2, .ref n3, .ref n4, .ref n5, .ref n6, .ref n7, .ref n8, .ref n9, .ref n10])), (n1, .inl (T 0, 10, .inl nf1)), (n2, .inl (T 0, 10, .inl nf2)), (n3, .inl (T 0, 10, .inl nf3)), (n4, .inl (T 0, 10, .inl nf4)), (n5, .inl (T 0, 10, .inl nf5)), (n9, .inl (T 0, 10, .inl nf9))])
set_option maxHeartbeats 4000000 in
set_option maxRecDepth 100000 in
theorem x_bestRound (l : Launch) (D : va_G) (T : Nat → ClassId) (o : Nat) (le : Int32) (wh : Int32) (n0 : Nat) (s0 : Nat) (im : Nat) (iz : Nat) (rw : Nat) (t0 : Nat) (u0 : Nat) (h0 : Nat) (y0 : Nat) (sv : Value) (h1 : Nat) (qx : Int32) (qy : Int32) (ql : Int32) (h2 : Nat) (h3 : Nat) (qb : Nat → Int32) (qp : Nat → Int32) (qc : Nat → Int32) (nn : Nat) (nm : Int32) (nl : Int32) (no : Int32) (nu : Int32) (n1 : Nat) (n2 : Nat) (n3 : Nat) (n4 : Nat) (n5 : Nat) (n6 : Nat) (n7 : Nat) (n8 : Nat) (n9 : Nat) (n10 : Nat) (nf1 : Nat → Int32) (nf2 : Nat → Int32) (nf3 : Nat → Int32) (nf4 : Nat → Int32) (nf5 : Nat → Int32) (nf9 : Nat → Int32) (h_n : nn ≤ 10) : Ct l yX7_bestRound cX7_bestRound 4 (some .int) 5 0 0 D T [.ref o, .int le, .int wh] [(o, .inr (7, [.ref n0, .ref s0, .ref im, .ref iz, .ref rw, .ref t0, .ref u0, .ref h0, .ref y0, sv])), (h0, .inr (3, [.ref h1, .int qx, .int qy, .int ql, .ref h2, .ref h3])), (h1, .inl (T 0, 10, .inl qb)), (h2, .inl (T 0, 10, .inl qp)), (h3, .inl (T 0, 12, .inl qc)), (n0, .inr (5, [.int (nI nn), .int nm, .int nl, .int no, .int nu, .ref n1, .ref n2, .ref n3, .ref n4, .ref n5, .ref n6, .ref n7, .ref n8, .ref n9, .ref n10])), (n1, .inl (T 0, 10, .inl nf1)), (n2, .inl (T 0, 10, .inl nf2)), (n3, .inl (T 0, 10, .inl nf3)), (n4, .inl (T 0, 10, .inl nf4)), (n5, .inl (T 0, 10, .inl nf5)), (n9, .inl (T 0, 10, .inl nf9))] (q_x_bestRound T o le wh n0 s0 im iz rw t0 u0 h0 y0 sv h1 qx qy ql h2 h3 qb qp qc nn nm nl no nu n1 n2 n3 n4 n5 n6 n7 n8 n9 n10 nf1 nf2 nf3 nf4 nf5 nf9) := by
  refine Ct.of (cc := cX7_bestRound) (maxL := 4) (ret := (some .int)) (by decide) (Nat.le_of_ble_eq_true rfl) ?_
  intro p e s m args below meth c A ls hC hnm V hl
  obtain ⟨hx, hb, hr, hml, hown, hts, hlocks⟩ := id hC
  generalize hH : s.heap = H at V ⊢
  clear hH
  have hl : lv_has ls 4 [(0, .ref o), (1, .int le), (2, .int wh)] := hl
  generalize hlo : ([] : List Loc) = locs at V ⊢
  clear hlo
  refine lv_iload_n hx hb dX7_bestRound_0 rfl (lv_at hl 2 rfl) ?_
  refine lv_if_eq (tgt := 21) hx hb dX7_bestRound_1 (by decide) (fun c_1 => ?_) (fun c_1 => ?_)
  · skip
    refine lv_iload_n hx hb dX7_bestRound_21 rfl (lv_at hl 1 rfl) ?_
    refine lv_iconst (v := (nI 1)) hx hb dX7_bestRound_22 (by decide +kernel) ?_
    refine lv_bipush (v := (nI 10)) hx hb dX7_bestRound_23 (by decide +kernel) ?_
    refine g_callSU (nA := 3) hC V hl.1 (c_isWithin l D T le (nI 1) (nI 10)) w_292 w_293 w_2 w_294 (by decide +kernel) rfl ⟨(Nat.le_of_ble_eq_true rfl), (Nat.le_of_ble_eq_true rfl)⟩ [] rfl rfl (Nat.le_of_ble_eq_true rfl) dX7_bestRound_25 ⟨(Nat.le_of_ble_eq_true rfl), (Nat.le_of_ble_eq_true rfl)⟩ rfl (fun r w1 H locs hQ V => ?_)
    rcases hQ with ⟨rfl, rfl, f_2, f_3⟩ | ⟨rfl, rfl, f_4⟩
    · have V : gW D T A s [(o, .inr (7, [.ref n0, .ref s0, .ref im, .ref iz, .ref rw, .ref t0, .ref u0, .ref h0, .ref y0, sv])), (h0, .inr (3, [.ref h1, .int qx, .int qy, .int ql, .ref h2, .ref h3])), (h1, .inl (T 0, 10, .inl qb)), (h2, .inl (T 0, 10, .inl qp)), (h3, .inl (T 0, 12, .inl qc)), (n0, .inr (5, [.int (nI nn), .int nm, .int nl, .int no, .int nu, .ref n1, .ref n2, .ref n3, .ref n4, .ref n5, .ref n6, .ref n7, .ref n8, .ref n9, .ref n10])), (n1, .inl (T 0, 10, .inl nf1)), (n2, .inl (T 0, 10, .inl nf2)), (n3, .inl (T 0, 10, .inl nf3)), (n4, .inl (T 0, 10, .inl nf4)), (n5, .inl (T 0, 10, .inl nf5)), (n9, .inl (T 0, 10, .inl nf9))] H locs := V _ [] rfl rfl rfl (by decide +kernel) rfl
      show W p l e _ s m args below meth c H locs _ _ _ (F0 m 28 ls [.int (nI 1)])
      obtain ⟨i, hi1, hi2, ei⟩ := g_rng (by first | decide | omega) (by first | decide | omega) f_2 f_3
      rw [ei] at hl
      have hmul : nn * i ≤ 10 * 10 := Nat.mul_le_mul h_n (by omega)
      refine lv_if_ne (tgt := 34) hx hb dX7_bestRound_28 (by decide) (fun _ => ?_) (fun c => absurd (show (nI 1) = 0 from c) (by decide +kernel))
      refine lv_aload_n hx hb dX7_bestRound_34 rfl (lv_at hl 0 rfl) ?_
      refine g_get hC V (ci := 7) uwX7 0 rfl rfl 0 (by decide) w_249 rfl rfl dX7_bestRound_35 ?_
      refine g_get hC V (ci := 5) uwX5 5 rfl rfl 0 (by decide) w_38 rfl rfl dX7_bestRound_38 ?_
      refine lv_iload_n hx hb dX7_bestRound_41 rfl (lv_at hl 1 rfl) ?_
      refine lv_imul hx hb dX7_bestRound_42 ?_
      refine g_vi (y := (nI (nn * i))) (pk_mul _ _) ?_
      refine lv_bipush (v := (nI 10)) hx hb dX7_bestRound_43 (by decide +kernel) ?_
      refine lv_icmp_le (tgt := 51) hx hb dX7_bestRound_45 (by decide) (fun c_5 => ?_) (fun c_5 => ?_)
      · skip
        have c_5 := b_le (by omega) (by omega) c_5
        refine lv_aload_n hx hb dX7_bestRound_51 rfl (lv_at hl 0 rfl) ?_
        refine g_get hC V (ci := 7) uwX7 0 rfl rfl 7 (by decide) w_256 rfl rfl dX7_bestRound_52 ?_
        refine lv_aload_n hx hb dX7_bestRound_55 rfl (lv_at hl 0 rfl) ?_
        refine g_get hC V (ci := 7) uwX7 0 rfl rfl 0 (by decide) w_249 rfl rfl dX7_bestRound_56 ?_
        refine lv_iload_n hx hb dX7_bestRound_59 rfl (lv_at hl 1 rfl) ?_
        refine g_callVU (nA := 2) hC V hl.1 (h_seekBest l D T h0 n0 i h1 qx qy ql h2 h3 qb qp qc nn nm nl no nu n1 n2 n3 n4 n5 n6 n7 n8 n9 n10 nf1 nf2 nf3 nf4 nf5 nf9 (by first | assumption | omega) ⟨by omega, by omega⟩ (by assumption)) w_656 w_657 w_658 w_6 w_659 (by decide +kernel) rfl ⟨(Nat.le_of_ble_eq_true rfl), (Nat.le_of_ble_eq_true rfl)⟩ 1 (ci := 3) rfl rfl [1, 2, 3, 4, 5, 6, 7, 8, 9, 10, 11] rfl rfl (Nat.le_of_ble_eq_true rfl) dX7_bestRound_60 ⟨(Nat.le_of_ble_eq_true rfl), (Nat.le_of_ble_eq_true rfl)⟩ rfl (fun r w1 H locs hQ V => ?_)
        obtain ⟨z_6, g1_7, g2_8, g3_9, rfl, rfl⟩ := hQ
        have V : gW D T A s [(o, .inr (7, [.ref n0, .ref s0, .ref im, .ref iz, .ref rw, .ref t0, .ref u0, .ref h0, .ref y0, sv])), (h0, .inr (3, [.ref h1, .int qx, .int qy, .int (nI i), .ref h2, .ref h3])), (h1, .inl (T 0, 10, .inl g1_7)), (h2, .inl (T 0, 10, .inl g2_8)), (h3, .inl (T 0, 12, .inl g3_9)), (n0, .inr (5, [.int (nI nn), .int nm, .int nl, .int no, .int nu, .ref n1, .ref n2, .ref n3, .ref n4, .ref n5, .ref n6, .ref n7, .ref n8, .ref n9, .ref n10])), (n1, .inl (T 0, 10, .inl nf1)), (n2, .inl (T 0, 10, .inl nf2)), (n3, .inl (T 0, 10, .inl nf3)), (n4, .inl (T 0, 10, .inl nf4)), (n5, .inl (T 0, 10, .inl nf5)), (n9, .inl (T 0, 10, .inl nf9))] H locs := V _ [1, 0, 0, 0, 0, 0, 0, 0, 0, 0, 0] rfl rfl rfl (by decide +kernel) rfl
        show W p l e _ s m args below meth c H locs _ _ _ (F0 m 63 ls [.int z_6])
        refine lv_istore_n (lv' := [(3, .int z_6), (0, .ref o), (1, .int (nI i)), (2, .int wh)]) hx hb dX7_bestRound_63 rfl hl (by decide) rfl (fun ls hl => ?_)
        refine lv_iload_n hx hb dX7_bestRound_64 rfl (lv_at hl 3 rfl) ?_
        refine lv_if_eq (tgt := 73) hx hb dX7_bestRound_65 (by decide) (fun c_10 => ?_) (fun c_10 => ?_)
        · skip
          refine lv_iload_n hx hb dX7_bestRound_73 rfl (lv_at hl 0 rfl) ?_
          refine lv_goto (tgt := 89) hx hb dX7_bestRound_74 (by decide) ?_
          exact g_iret (Qr := (q_x_bestRound T o le wh n0 s0 im iz rw t0 u0 h0 y0 sv h1 qx qy ql h2 h3 qb qp qc nn nm nl no nu n1 n2 n3 n4 n5 n6 n7 n8 n9 n10 nf1 nf2 nf3 nf4 nf5 nf9)) hC V ⟨(Nat.le_of_ble_eq_true rfl), (Nat.le_of_ble_eq_true rfl)⟩ ⟨z_6, qx, qy, (nI i), g1_7, g2_8, g3_9, rfl, rfl⟩ dX7_bestRound_89
        · skip
          refine lv_iload_n hx hb dX7_bestRound_68 rfl (lv_at hl 0 rfl) ?_
          refine lv_iconst (v := (-1)) hx hb dX7_bestRound_69 (by decide +kernel) ?_
          refine lv_icmp_ne (tgt := 77) hx hb dX7_bestRound_70 (by decide) (fun c_11 => ?_) (fun c_11 => ?_)
          · skip
            refine lv_aload_n hx hb dX7_bestRound_77 rfl (lv_at hl 1 rfl) ?_
            refine g_get hC V (ci := 7) uwX7 0 rfl rfl 7 (by decide) w_256 rfl rfl dX7_bestRound_78 ?_
            refine g_get hC V (ci := 3) uwX3 1 rfl rfl 0 (by decide) w_184 rfl rfl dX7_bestRound_81 ?_
            refine lv_iload_n hx hb dX7_bestRound_84 rfl (lv_at hl 3 rfl) ?_
            refine lv_bipush (v := (nI 10)) hx hb dX7_bestRound_85 (by decide +kernel) ?_
            refine lv_isub hx hb dX7_bestRound_87 ?_
            exact absurd (by assumption) ‹¬ wh = 0›
          · skip
            refine lv_iload_n hx hb dX7_bestRound_73 rfl (lv_at hl 0 rfl) ?_
            refine lv_goto (tgt := 89) hx hb dX7_bestRound_74 (by decide) ?_
            exact g_iret (Qr := (q_x_bestRound T o le wh n0 s0 im iz rw t0 u0 h0 y0 sv h1 qx qy ql h2 h3 qb qp qc nn nm nl no nu n1 n2 n3 n4 n5 n6 n7 n8 n9 n10 nf1 nf2 nf3 nf4 nf5 nf9)) hC V ⟨(Nat.le_of_ble_eq_true rfl), (Nat.le_of_ble_eq_true rfl)⟩ ⟨z_6, qx, qy, (nI i), g1_7, g2_8, g3_9, rfl, rfl⟩ dX7_bestRound_89
      · skip
        have c_5 := b_nle (by omega) (by omega) c_5
        refine lv_bipush (v := (-4)) hx hb dX7_bestRound_48 (by decide +kernel) ?_
        exact g_iret (Qr := (q_x_bestRound T o le wh n0 s0 im iz rw t0 u0 h0 y0 sv h1 qx qy ql h2 h3 qb qp qc nn nm nl no nu n1 n2 n3 n4 n5 n6 n7 n8 n9 n10 nf1 nf2 nf3 nf4 nf5 nf9)) hC V ⟨(Nat.le_of_ble_eq_true rfl), (Nat.le_of_ble_eq_true rfl)⟩ ⟨(-4), qx, qy, ql, qb, qp, qc, rfl, rfl⟩ dX7_bestRound_50
    · have V : gW D T A s [(o, .inr (7, [.ref n0, .ref s0, .ref im, .ref iz, .ref rw, .ref t0, .ref u0, .ref h0, .ref y0, sv])), (h0, .inr (3, [.ref h1, .int qx, .int qy, .int ql, .ref h2, .ref h3])), (h1, .inl (T 0, 10, .inl qb)), (h2, .inl (T 0, 10, .inl qp)), (h3, .inl (T 0, 12, .inl qc)), (n0, .inr (5, [.int (nI nn), .int nm, .int nl, .int no, .int nu, .ref n1, .ref n2, .ref n3, .ref n4, .ref n5, .ref n6, .ref n7, .ref n8, .ref n9, .ref n10])), (n1, .inl (T 0, 10, .inl nf1)), (n2, .inl (T 0, 10, .inl nf2)), (n3, .inl (T 0, 10, .inl nf3)), (n4, .inl (T 0, 10, .inl nf4)), (n5, .inl (T 0, 10, .inl nf5)), (n9, .inl (T 0, 10, .inl nf9))] H locs := V _ [] rfl rfl rfl (by decide +kernel) rfl
      show W p l e _ s m args below meth c H locs _ _ _ (F0 m 28 ls [.int (nI 0)])
      refine lv_if_ne (tgt := 34) hx hb dX7_bestRound_28 (by decide) (fun c => absurd (show (nI 0) = 0 by decide +kernel) c) (fun _ => ?_)
      refine lv_bipush (v := (-3)) hx hb dX7_bestRound_31 (by decide +kernel) ?_
      exact g_iret (Qr := (q_x_bestRound T o le wh n0 s0 im iz rw t0 u0 h0 y0 sv h1 qx qy ql h2 h3 qb qp qc nn nm nl no nu n1 n2 n3 n4 n5 n6 n7 n8 n9 n10 nf1 nf2 nf3 nf4 nf5 nf9)) hC V ⟨(Nat.le_of_ble_eq_true rfl), (Nat.le_of_ble_eq_true rfl)⟩ ⟨(-3), qx, qy, ql, qb, qp, qc, rfl, rfl⟩ dX7_bestRound_33
  · skip
    refine lv_aload_n hx hb dX7_bestRound_4 rfl (lv_at hl 0 rfl) ?_
    refine g_get hC V (ci := 7) uwX7 0 rfl rfl 0 (by decide) w_249 rfl rfl dX7_bestRound_5 ?_
    refine lv_iload_n hx hb dX7_bestRound_8 rfl (lv_at hl 2 rfl) ?_
    refine lv_bipush (v := (nI 10)) hx hb dX7_bestRound_9 (by decide +kernel) ?_
    refine lv_isub hx hb dX7_bestRound_11 ?_
    refine g_callVU (nA := 1) hC V hl.1 (s_isSmith l D T n0 (wh - (nI 10)) nn nm nl no nu n1 n2 n3 n4 n5 n6 n7 n8 n9 n10 (by first | assumption | omega)) w_425 w_426 w_427 w_3 w_428 (by decide +kernel) rfl ⟨(Nat.le_of_ble_eq_true rfl), (Nat.le_of_ble_eq_true rfl)⟩ 5 (ci := 5) rfl rfl [5] rfl rfl (Nat.le_of_ble_eq_true rfl) dX7_bestRound_12 ⟨(Nat.le_of_ble_eq_true rfl), (Nat.le_of_ble_eq_true rfl)⟩ rfl (fun r w1 H locs hQ V => ?_)
    rcases hQ with ⟨j_12, rfl, rfl, f_13, f_14⟩ | ⟨rfl, rfl, f_15⟩
    · have V : gW D T A s [(o, .inr (7, [.ref n0, .ref s0, .ref im, .ref iz, .ref rw, .ref t0, .ref u0, .ref h0, .ref y0, sv])), (h0, .inr (3, [.ref h1, .int qx, .int qy, .int ql, .ref h2, .ref h3])), (h1, .inl (T 0, 10, .inl qb)), (h2, .inl (T 0, 10, .inl qp)), (h3, .inl (T 0, 12, .inl qc)), (n0, .inr (5, [.int (nI nn), .int nm, .int nl, .int no, .int nu, .ref n1, .ref n2, .ref n3, .ref n4, .ref n5, .ref n6, .ref n7, .ref n8, .ref n9, .ref n10])), (n1, .inl (T 0, 10, .inl nf1)), (n2, .inl (T 0, 10, .inl nf2)), (n3, .inl (T 0, 10, .inl nf3)), (n4, .inl (T 0, 10, .inl nf4)), (n5, .inl (T 0, 10, .inl nf5)), (n9, .inl (T 0, 10, .inl nf9))] H locs := V _ [5] rfl rfl rfl (by decide +kernel) rfl
      show W p l e _ s m args below meth c H locs _ _ _ (F0 m 15 ls [.int (nI 1)])
      refine lv_if_ne (tgt := 21) hx hb dX7_bestRound_15 (by decide) (fun _ => ?_) (fun c => absurd (show (nI 1) = 0 from c) (by decide +kernel))
      refine lv_iload_n hx hb dX7_bestRound_21 rfl (lv_at hl 1 rfl) ?_
      refine lv_iconst (v := (nI 1)) hx hb dX7_bestRound_22 (by decide +kernel) ?_
      refine lv_bipush (v := (nI 10)) hx hb dX7_bestRound_23 (by decide +kernel) ?_
      refine g_callSU (nA := 3) hC V hl.1 (c_isWithin l D T le (nI 1) (nI 10)) w_292 w_293 w_2 w_294 (by decide +kernel) rfl ⟨(Nat.le_of_ble_eq_true rfl), (Nat.le_of_ble_eq_true rfl)⟩ [] rfl rfl (Nat.le_of_ble_eq_true rfl) dX7_bestRound_25 ⟨(Nat.le_of_ble_eq_true rfl), (Nat.le_of_ble_eq_true rfl)⟩ rfl (fun r w1 H locs hQ V => ?_)
      rcases hQ with ⟨rfl, rfl, f_16, f_17⟩ | ⟨rfl, rfl, f_18⟩
      · have V : gW D T A s [(o, .inr (7, [.ref n0, .ref s0, .ref im, .ref iz, .ref rw, .ref t0, .ref u0, .ref h0, .ref y0, sv])), (h0, .inr (3, [.ref h1, .int qx, .int qy, .int ql, .ref h2, .ref h3])), (h1, .inl (T 0, 10, .inl qb)), (h2, .inl (T 0, 10, .inl qp)), (h3, .inl (T 0, 12, .inl qc)), (n0, .inr (5, [.int (nI nn), .int nm, .int nl, .int no, .int nu, .ref n1, .ref n2, .ref n3, .ref n4, .ref n5, .ref n6, .ref n7, .ref n8, .ref n9, .ref n10])), (n1, .inl (T 0, 10, .inl nf1)), (n2, .inl (T 0, 10, .inl nf2)), (n3, .inl (T 0, 10, .inl nf3)), (n4, .inl (T 0, 10, .inl nf4)), (n5, .inl (T 0, 10, .inl nf5)), (n9, .inl (T 0, 10, .inl nf9))] H locs := V _ [] rfl rfl rfl (by decide +kernel) rfl
        show W p l e _ s m args below meth c H locs _ _ _ (F0 m 28 ls [.int (nI 1)])
        obtain ⟨i, hi1, hi2, ei⟩ := g_rng (by first | decide | omega) (by first | decide | omega) f_16 f_17
        rw [ei] at hl
        have hmul : nn * i ≤ 10 * 10 := Nat.mul_le_mul h_n (by omega)
        refine lv_if_ne (tgt := 34) hx hb dX7_bestRound_28 (by decide) (fun _ => ?_) (fun c => absurd (show (nI 1) = 0 from c) (by decide +kernel))
        refine lv_aload_n hx hb dX7_bestRound_34 rfl (lv_at hl 0 rfl) ?_
        refine g_get hC V (ci := 7) uwX7 0 rfl rfl 0 (by decide) w_249 rfl rfl dX7_bestRound_35 ?_
        refine g_get hC V (ci := 5) uwX5 5 rfl rfl 0 (by decide) w_38 rfl rfl dX7_bestRound_38 ?_
        refine lv_iload_n hx hb dX7_bestRound_41 rfl (lv_at hl 1 rfl) ?_
        refine lv_imul hx hb dX7_bestRound_42 ?_
        refine g_vi (y := (nI (nn * i))) (pk_mul _ _) ?_
        refine lv_bipush (v := (nI 10)) hx hb dX7_bestRound_43 (by decide +kernel) ?_
        refine lv_icmp_le (tgt := 51) hx hb dX7_bestRound_45 (by decide) (fun c_19 => ?_) (fun c_19 => ?_)
        · skip
          have c_19 := b_le (by omega) (by omega) c_19
          refine lv_aload_n hx hb dX7_bestRound_51 rfl (lv_at hl 0 rfl) ?_
          refine g_get hC V (ci := 7) uwX7 0 rfl rfl 7 (by decide) w_256 rfl rfl dX7_bestRound_52 ?_
          refine lv_aload_n hx hb dX7_bestRound_55 rfl (lv_at hl 0 rfl) ?_
          refine g_get hC V (ci := 7) uwX7 0 rfl rfl 0 (by decide) w_249 rfl rfl dX7_bestRound_56 ?_
          refine lv_iload_n hx hb dX7_bestRound_59 rfl (lv_at hl 1 rfl) ?_
          refine g_callVU (nA := 2) hC V hl.1 (h_seekBest l D T h0 n0 i h1 qx qy ql h2 h3 qb qp qc nn nm nl no nu n1 n2 n3 n4 n5 n6 n7 n8 n9 n10 nf1 nf2 nf3 nf4 nf5 nf9 (by first | assumption | omega) ⟨by omega, by omega⟩ (by assumption)) w_656 w_657 w_658 w_6 w_659 (by decide +kernel) rfl ⟨(Nat.le_of_ble_eq_true rfl), (Nat.le_of_ble_eq_true rfl)⟩ 1 (ci := 3) rfl rfl [1, 2, 3, 4, 5, 6, 7, 8, 9, 10, 11] rfl rfl (Nat.le_of_ble_eq_true rfl) dX7_bestRound_60 ⟨(Nat.le_of_ble_eq_true rfl), (Nat.le_of_ble_eq_true rfl)⟩ rfl (fun r w1 H locs hQ V => ?_)
          obtain ⟨z_20, g1_21, g2_22, g3_23, rfl, rfl⟩ := hQ
          have V : gW D T A s [(o, .inr (7, [.ref n0, .ref s0, .ref im, .ref iz, .ref rw, .ref t0, .ref u0, .ref h0, .ref y0, sv])), (h0, .inr (3, [.ref h1, .int qx, .int qy, .int (nI i), .ref h2, .ref h3])), (h1, .inl (T 0, 10, .inl g1_21)), (h2, .inl (T 0, 10, .inl g2_22)), (h3, .inl (T 0, 12, .inl g3_23)), (n0, .inr (5, [.int (nI nn), .int nm, .int nl, .int no, .int nu, .ref n1, .ref n2, .ref n3, .ref n4, .ref n5, .ref n6, .ref n7, .ref n8, .ref n9, .ref n10])), (n1, .inl (T 0, 10, .inl nf1)), (n2, .inl (T 0, 10, .inl nf2)), (n3, .inl (T 0, 10, .inl nf3)), (n4, .inl (T 0, 10, .inl nf4)), (n5, .inl (T 0, 10, .inl nf5)), (n9, .inl (T 0, 10, .inl nf9))] H locs := V _ [1, 0, 0, 0, 0, 0, 0, 0, 0, 0, 0] rfl rfl rfl (by decide +kernel) rfl
          show W p l e _ s m args below meth c H locs _ _ _ (F0 m 63 ls [.int z_20])
          refine lv_istore_n (lv' := [(3, .int z_20), (0, .ref o), (1, .int (nI i)), (2, .int wh)]) hx hb dX7_bestRound_63 rfl hl (by decide) rfl (fun ls hl => ?_)
          refine lv_iload_n hx hb dX7_bestRound_64 rfl (lv_at hl 3 rfl) ?_
          refine lv_if_eq (tgt := 73) hx hb dX7_bestRound_65 (by decide) (fun c_24 => ?_) (fun c_24 => ?_)
          · skip
            refine lv_iload_n hx hb dX7_bestRound_73 rfl (lv_at hl 0 rfl) ?_
            refine lv_goto (tgt := 89) hx hb dX7_bestRound_74 (by decide) ?_
            exact g_iret (Qr := (q_x_bestRound T o le wh n0 s0 im iz rw t0 u0 h0 y0 sv h1 qx qy ql h2 h3 qb qp qc nn nm nl no nu n1 n2 n3 n4 n5 n6 n7 n8 n9 n10 nf1 nf2 nf3 nf4 nf5 nf9)) hC V ⟨(Nat.le_of_ble_eq_true rfl), (Nat.le_of_ble_eq_true rfl)⟩ ⟨z_20, qx, qy, (nI i), g1_21, g2_22, g3_23, rfl, rfl⟩ dX7_bestRound_89
          · skip
            refine lv_iload_n hx hb dX7_bestRound_68 rfl (lv_at hl 0 rfl) ?_
            refine lv_iconst (v := (-1)) hx hb dX7_bestRound_69 (by decide +kernel) ?_
            refine lv_icmp_ne (tgt := 77) hx hb dX7_bestRound_70 (by decide) (fun c_25 => ?_) (fun c_25 => ?_)
            · skip
              refine lv_aload_n hx hb dX7_bestRound_77 rfl (lv_at hl 1 rfl) ?_
              refine g_get hC V (ci := 7) uwX7 0 rfl rfl 7 (by decide) w_256 rfl rfl dX7_bestRound_78 ?_
              refine g_get hC V (ci := 3) uwX3 1 rfl rfl 0 (by decide) w_184 rfl rfl dX7_bestRound_81 ?_
              refine lv_iload_n hx hb dX7_bestRound_84 rfl (lv_at hl 3 rfl) ?_
              refine lv_bipush (v := (nI 10)) hx hb dX7_bestRound_85 (by decide +kernel) ?_
              refine lv_isub hx hb dX7_bestRound_87 ?_
              refine g_vi (y := nI j_12) f_13 ?_
              refine g_iald hC V 2 rfl (vp_in_nI (by omega) (by omega)) (v := (g1_21 j_12)) (congrArg _ (nI_clamp (by omega))) dX7_bestRound_88 ?_
              exact g_iret (Qr := (q_x_bestRound T o le wh n0 s0 im iz rw t0 u0 h0 y0 sv h1 qx qy ql h2 h3 qb qp qc nn nm nl no nu n1 n2 n3 n4 n5 n6 n7 n8 n9 n10 nf1 nf2 nf3 nf4 nf5 nf9)) hC V ⟨(Nat.le_of_ble_eq_true rfl), (Nat.le_of_ble_eq_true rfl)⟩ ⟨(g1_21 j_12), qx, qy, (nI i), g1_21, g2_22, g3_23, rfl, rfl⟩ dX7_bestRound_89
            · skip
              refine lv_iload_n hx hb dX7_bestRound_73 rfl (lv_at hl 0 rfl) ?_
              refine lv_goto (tgt := 89) hx hb dX7_bestRound_74 (by decide) ?_
              exact g_iret (Qr := (q_x_bestRound T o le wh n0 s0 im iz rw t0 u0 h0 y0 sv h1 qx qy ql h2 h3 qb qp qc nn nm nl no nu n1 n2 n3 n4 n5 n6 n7 n8 n9 n10 nf1 nf2 nf3 nf4 nf5 nf9)) hC V ⟨(Nat.le_of_ble_eq_true rfl), (Nat.le_of_ble_eq_true rfl)⟩ ⟨z_20, qx, qy, (nI i), g1_21, g2_22, g3_23, rfl, rfl⟩ dX7_bestRound_89
        · skip
          have c_19 := b_nle (by omega) (by omega) c_19
          refine lv_bipush (v := (-4)) hx hb dX7_bestRound_48 (by decide +kernel) ?_
          exact g_iret (Qr := (q_x_bestRound T o le wh n0 s0 im iz rw t0 u0 h0 y0 sv h1 qx qy ql h2 h3 qb qp qc nn nm nl no nu n1 n2 n3 n4 n5 n6 n7 n8 n9 n10 nf1 nf2 nf3 nf4 nf5 nf9)) hC V ⟨(Nat.le_of_ble_eq_true rfl), (Nat.le_of_ble_eq_true rfl)⟩ ⟨(-4), qx, qy, ql, qb, qp, qc, rfl, rfl⟩ dX7_bestRound_50
      · have V : gW D T A s [(o, .inr (7, [.ref n0, .ref s0, .ref im, .ref iz, .ref rw, .ref t0, .ref u0, .ref h0, .ref y0, sv])), (h0, .inr (3, [.ref h1, .int qx, .int qy, .int ql, .ref h2, .ref h3])), (h1, .inl (T 0, 10, .inl qb)), (h2, .inl (T 0, 10, .inl qp)), (h3, .inl (T 0, 12, .inl qc)), (n0, .inr (5, [.int (nI nn), .int nm, .int nl, .int no, .int nu, .ref n1, .ref n2, .ref n3, .ref n4, .ref n5, .ref n6, .ref n7, .ref n8, .ref n9, .ref n10])), (n1, .inl (T 0, 10, .inl nf1)), (n2, .inl (T 0, 10, .inl nf2)), (n3, .inl (T 0, 10, .inl nf3)), (n4, .inl (T 0, 10, .inl nf4)), (n5, .inl (T 0, 10, .inl nf5)), (n9, .inl (T 0, 10, .inl nf9))] H locs := V _ [] rfl rfl rfl (by decide +kernel) rfl
        show W p l e _ s m args below meth c H locs _ _ _ (F0 m 28 ls [.int (nI 0)])
        refine lv_if_ne (tgt := 34) hx hb dX7_bestRound_28 (by decide) (fun c => absurd (show (nI 0) = 0 by decide +kernel) c) (fun _ => ?_)
        refine lv_bipush (v := (-3)) hx hb dX7_bestRound_31 (by decide +kernel) ?_
        exact g_iret (Qr := (q_x_bestRound T o le wh n0 s0 im iz rw t0 u0 h0 y0 sv h1 qx qy ql h2 h3 qb qp qc nn nm nl no nu n1 n2 n3 n4 n5 n6 n7 n8 n9 n10 nf1 nf2 nf3 nf4 nf5 nf9)) hC V ⟨(Nat.le_of_ble_eq_true rfl), (Nat.le_of_ble_eq_true rfl)⟩ ⟨(-3), qx, qy, ql, qb, qp, qc, rfl, rfl⟩ dX7_bestRound_33
    · have V : gW D T A s [(o, .inr (7, [.ref n0, .ref s0, .ref im, .ref iz, .ref rw, .ref t0, .ref u0, .ref h0, .ref y0, sv])), (h0, .inr (3, [.ref h1, .int qx, .int qy, .int ql, .ref h2, .ref h3])), (h1, .inl (T 0, 10, .inl qb)), (h2, .inl (T 0, 10, .inl qp)), (h3, .inl (T 0, 12, .inl qc)), (n0, .inr (5, [.int (nI nn), .int nm, .int nl, .int no, .int nu, .ref n1, .ref n2, .ref n3, .ref n4, .ref n5, .ref n6, .ref n7, .ref n8, .ref n9, .ref n10])), (n1, .inl (T 0, 10, .inl nf1)), (n2, .inl (T 0, 10, .inl nf2)), (n3, .inl (T 0, 10, .inl nf3)), (n4, .inl (T 0, 10, .inl nf4)), (n5, .inl (T 0, 10, .inl nf5)), (n9, .inl (T 0, 10, .inl nf9))] H locs := V _ [5] rfl rfl rfl (by decide +kernel) rfl
      show W p l e _ s m args below meth c H locs _ _ _ (F0 m 15 ls [.int (nI 0)])
      refine lv_if_ne (tgt := 21) hx hb dX7_bestRound_15 (by decide) (fun c => absurd (show (nI 0) = 0 by decide +kernel) c) (fun _ => ?_)
      refine lv_bipush (v := (-2)) hx hb dX7_bestRound_18 (by decide +kernel) ?_
      exact g_iret (Qr := (q_x_bestRound T o le wh n0 s0 im iz rw t0 u0 h0 y0 sv h1 qx qy ql h2 h3 qb qp qc nn nm nl no nu n1 n2 n3 n4 n5 n6 n7 n8 n9 n10 nf1 nf2 nf3 nf4 nf5 nf9)) hC V ⟨(Nat.le_of_ble_eq_true rfl), (Nat.le_of_ble_eq_true rfl)⟩ ⟨(-2), qx, qy, ql, qb, qp, qc, rfl, rfl⟩ dX7_bestRound_20

def q_x_peace (T : Nat → ClassId) (o : Nat) (wh : Int32) (n0 : Nat) (s0 : Nat) (im : Nat) (iz : Nat) (rw : Nat) (t0 : Nat) (u0 : Nat) (h0 : Nat) (y0 : Nat) (sv : Value) (nn : Nat) (nm : Int32) (nl : Int32) (no : Int32) (nu : Int32) (n1 : Nat) (n2 : Nat) (n3 : Nat) (n4 : Nat) (n5 : Nat) (n6 : Nat) (n7 : Nat) (n8 : Nat) (n9 : Nat) (n10 : Nat) (nf1 : Nat → Int32) (nf2 : Nat → Int32) (nf3 : Nat → Int32) (nf4 : Nat → Int32) (nf5 : Nat → Int32) (nf9 : Nat → Int32) (nf10 : Nat → Int32) : Option Value → va_W → Prop := fun rr ww => (∃ (z : Int32) (g10 : Nat → Int32), rr = some (.int z) ∧ ww = [(o, .inr (7, [.ref n0, .ref s0, .ref im, .ref iz, .ref rw, .ref t0, .ref u0, .ref h0, .ref y0, sv])), (n0, .inr (5, [.int (nI nn), .int nm, .int nl, .int no, .int nu, .ref n1, .ref n2, .ref n3, .ref n4, .ref n5, .ref n6, .ref n7, .ref n8, .ref n9, .ref n10])), (n1, .inl (T 0, 10, .inl nf1)), (n2, .inl (T 0, 10, .inl nf2)), (n3, .inl (T 0, 10, .inl nf3)), (n4, .inl (T 0, 10, .inl nf4)), (n5, .inl (T 0, 10, .inl nf5)), (n9, .inl (T 0, 10, .inl nf9)), (n10, .inl (T 0, 10, .inl g10))])
set_option maxHeartbeats 4000000 in
set_option maxRecDepth 100000 in
theorem x_peace (l : Launch) (D : va_G) (T : Nat → ClassId) (o : Nat) (wh : Int32) (n0 : Nat) (s0 : Nat) (im : Nat) (iz : Nat) (rw : Nat) (t0 : Nat) (u0 : Nat) (h0 : Nat) (y0 : Nat) (sv : Value) (nn : Nat) (nm : Int32) (nl : Int32) (no : Int32) (nu : Int32) (n1 : Nat) (n2 : Nat) (n3 : Nat) (n4 : Nat) (n5 : Nat) (n6 : Nat) (n7 : Nat) (n8 : Nat) (n9 : Nat) (n10 : Nat) (nf1 : Nat → Int32) (nf2 : Nat → Int32) (nf3 : Nat → Int32) (nf4 : Nat → Int32) (nf5 : Nat → Int32) (nf9 : Nat → Int32) (nf10 : Nat → Int32) (h_n : nn ≤ 10) (h_t : ∀ i, i < nn → bd (nf9 i) nn) : Ct l yX7_peace cX7_peace 6 (some .int) 3 0 0 D T [.ref o, .int wh] [(o, .inr (7, [.ref n0, .ref s0, .ref im, .ref iz, .ref rw, .ref t0, .ref u0, .ref h0, .ref y0, sv])), (n0, .inr (5, [.int (nI nn), .int nm, .int nl, .int no, .int nu, .ref n1, .ref n2, .ref n3, .ref n4, .ref n5, .ref n6, .ref n7, .ref n8, .ref n9, .ref n10])), (n1, .inl (T 0, 10, .inl nf1)), (n2, .inl (T 0, 10, .inl nf2)), (n3, .inl (T 0, 10, .inl nf3)), (n4, .inl (T 0, 10, .inl nf4)), (n5, .inl (T 0, 10, .inl nf5)), (n9, .inl (T 0, 10, .inl nf9)), (n10, .inl (T 0, 10, .inl nf10))] (q_x_peace T o wh n0 s0 im iz rw t0 u0 h0 y0 sv nn nm nl no nu n1 n2 n3 n4 n5 n6 n7 n8 n9 n10 nf1 nf2 nf3 nf4 nf5 nf9 nf10) := by
  refine Ct.of (cc := cX7_peace) (maxL := 6) (ret := (some .int)) (by decide) (Nat.le_of_ble_eq_true rfl) ?_
  intro p e s m args below meth c A ls hC hnm V hl
  obtain ⟨hx, hb, hr, hml, hown, hts, hlocks⟩ := id hC
  generalize hH : s.heap = H at V ⊢
  clear hH
  have hl : lv_has ls 6 [(0, .ref o), (1, .int wh)] := hl
  generalize hlo : ([] : List Loc) = locs at V ⊢
  clear hlo
  have hpw := pw10 h_n
  refine lv_iload_n hx hb dX7_peace_0 rfl (lv_at hl 1 rfl) ?_
  refine lv_iconst (v := (nI 0)) hx hb dX7_peace_1 (by decide +kernel) ?_
  refine lv_iconst (v := (nI 1)) hx hb dX7_peace_2 (by decide +kernel) ?_
  refine g_callSU (nA := 3) hC V hl.1 (c_isWithin l D T wh (nI 0) (nI 1)) w_292 w_293 w_2 w_294 (by decide +kernel) rfl ⟨(Nat.le_of_ble_eq_true rfl), (Nat.le_of_ble_eq_true rfl)⟩ [] rfl rfl (Nat.le_of_ble_eq_true rfl) dX7_peace_3 ⟨(Nat.le_of_ble_eq_true rfl), (Nat.le_of_ble_eq_true rfl)⟩ rfl (fun r w1 H locs hQ V => ?_)
  rcases hQ with ⟨rfl, rfl, f_1, f_2⟩ | ⟨rfl, rfl, f_3⟩
  · have V : gW D T A s [(o, .inr (7, [.ref n0, .ref s0, .ref im, .ref iz, .ref rw, .ref t0, .ref u0, .ref h0, .ref y0, sv])), (n0, .inr (5, [.int (nI nn), .int nm, .int nl, .int no, .int nu, .ref n1, .ref n2, .ref n3, .ref n4, .ref n5, .ref n6, .ref n7, .ref n8, .ref n9, .ref n10])), (n1, .inl (T 0, 10, .inl nf1)), (n2, .inl (T 0, 10, .inl nf2)), (n3, .inl (T 0, 10, .inl nf3)), (n4, .inl (T 0, 10, .inl nf4)), (n5, .inl (T 0, 10, .inl nf5)), (n9, .inl (T 0, 10, .inl nf9)), (n10, .inl (T 0, 10, .inl nf10))] H locs := V _ [] rfl rfl rfl (by decide +kernel) rfl
    show W p l e _ s m args below meth c H locs _ _ _ (F0 m 6 ls [.int (nI 1)])
    refine lv_if_ne (tgt := 12) hx hb dX7_peace_6 (by decide) (fun _ => ?_) (fun c => absurd (show (nI 1) = 0 from c) (by decide +kernel))
    refine lv_iconst (v := (nI 0)) hx hb dX7_peace_12 (by decide +kernel) ?_
    refine lv_istore_n (lv' := [(2, .int (nI 0)), (0, .ref o), (1, .int wh)]) hx hb dX7_peace_13 rfl hl (by decide) rfl (fun ls hl => ?_)
    refine lv_aload_n hx hb dX7_peace_14 rfl (lv_at hl 1 rfl) ?_
    refine g_get hC V (ci := 7) uwX7 0 rfl rfl 0 (by decide) w_249 rfl rfl dX7_peace_15 ?_
    refine lv_iconst (v := (nI 0)) hx hb dX7_peace_18 (by decide +kernel) ?_
    refine g_callVU (nA := 1) hC V hl.1 (s_payTogether l D T n0 (nI 0) nn nm nl no nu n1 n2 n3 n4 n5 n6 n7 n8 n9 n10 nf1 nf2 nf3 nf4 nf5 nf9 nf10 (by first | assumption | omega) (by first | assumption | omega)) w_677 w_678 w_679 w_3 w_680 (by decide +kernel) rfl ⟨(Nat.le_of_ble_eq_true rfl), (Nat.le_of_ble_eq_true rfl)⟩ 1 (ci := 5) rfl rfl [1, 2, 3, 4, 5, 6, 7, 8] rfl rfl (Nat.le_of_ble_eq_true rfl) dX7_peace_19 ⟨(Nat.le_of_ble_eq_true rfl), (Nat.le_of_ble_eq_true rfl)⟩ rfl (fun r w1 H locs hQ V => ?_)
    obtain ⟨z_4, g10_5, rfl, rfl⟩ := hQ
    have V : gW D T A s [(o, .inr (7, [.ref n0, .ref s0, .ref im, .ref iz, .ref rw, .ref t0, .ref u0, .ref h0, .ref y0, sv])), (n0, .inr (5, [.int (nI nn), .int nm, .int nl, .int no, .int nu, .ref n1, .ref n2, .ref n3, .ref n4, .ref n5, .ref n6, .ref n7, .ref n8, .ref n9, .ref n10])), (n1, .inl (T 0, 10, .inl nf1)), (n2, .inl (T 0, 10, .inl nf2)), (n3, .inl (T 0, 10, .inl nf3)), (n4, .inl (T 0, 10, .inl nf4)), (n5, .inl (T 0, 10, .inl nf5)), (n9, .inl (T 0, 10, .inl nf9)), (n10, .inl (T 0, 10, .inl g10_5))] H locs := V _ [1, 0, 0, 0, 0, 0, 0, 0] rfl rfl rfl (by decide +kernel) rfl
    show W p l e _ s m args below meth c H locs _ _ _ (F0 m 22 ls [.int z_4])
    refine lv_istore_n (lv' := [(3, .int z_4), (2, .int (nI 0)), (0, .ref o), (1, .int wh)]) hx hb dX7_peace_22 rfl hl (by decide) rfl (fun ls hl => ?_)
    refine lv_iconst (v := (nI 1)) hx hb dX7_peace_23 (by decide +kernel) ?_
    refine lv_istore (lv' := [(4, .int (nI 1)), (3, .int z_4), (2, .int (nI 0)), (0, .ref o), (1, .int wh)]) hx hb dX7_peace_24 hl (by decide) rfl (fun ls hl => ?_)
    have L_6 : ∀ (fu : Nat) (k26 : Nat) (x26_3 : Int32) (x26_2 : Int32) (ga : Nat → Int32), k26 ≤ 2 ^ nn → 2 ^ nn - k26 < fu → ∀ (H : Heap) (locs : List Loc) (ls : Array Slot), gW D T A s [(o, .inr (7, [.ref n0, .ref s0, .ref im, .ref iz, .ref rw, .ref t0, .ref u0, .ref h0, .ref y0, sv])), (n0, .inr (5, [.int (nI nn), .int nm, .int nl, .int no, .int nu, .ref n1, .ref n2, .ref n3, .ref n4, .ref n5, .ref n6, .ref n7, .ref n8, .ref n9, .ref n10])), (n1, .inl (T 0, 10, .inl nf1)), (n2, .inl (T 0, 10, .inl nf2)), (n3, .inl (T 0, 10, .inl nf3)), (n4, .inl (T 0, 10, .inl nf4)), (n5, .inl (T 0, 10, .inl nf5)), (n9, .inl (T 0, 10, .inl nf9)), (n10, .inl (T 0, 10, .inl ga))] H locs → lv_has ls 6 [(4, .int (nI k26)), (3, .int x26_3), (2, .int x26_2), (0, .ref o), (1, .int wh)] → W p l e (rmD 3 0 0) s m args below meth c H locs 0 0 (MQ below (gQ D A (q_x_peace T o wh n0 s0 im iz rw t0 u0 h0 y0 sv nn nm nl no nu n1 n2 n3 n4 n5 n6 n7 n8 n9 n10 nf1 nf2 nf3 nf4 nf5 nf9 nf10)) args s 0 0 A) (F0 m 26 ls []) := by
      intro fu_26
      induction fu_26 with
      | zero => intro k26 x26_3 x26_2 ga hk26 hmu; exact absurd hmu (Nat.not_lt_zero _)
      | succ fu_26 ih_26 =>
        intro k26 x26_3 x26_2 ga hk26 hmu_26 H locs ls V hl
        refine lv_iload hx hb dX7_peace_26 (lv_at hl 0 rfl) ?_
        refine lv_aload_n hx hb dX7_peace_28 rfl (lv_at hl 3 rfl) ?_
        refine g_get hC V (ci := 7) uwX7 0 rfl rfl 0 (by decide) w_249 rfl rfl dX7_peace_29 ?_
        refine g_callVU (nA := 0) hC V hl.1 (s_everyone l D T n0 nn nm nl no nu n1 n2 n3 n4 n5 n6 n7 n8 n9 n10 (by first | assumption | omega)) w_682 w_463 w_464 w_3 w_465 (by decide +kernel) rfl ⟨(Nat.le_of_ble_eq_true rfl), (Nat.le_of_ble_eq_true rfl)⟩ 1 (ci := 5) rfl rfl [1] rfl rfl (Nat.le_of_ble_eq_true rfl) dX7_peace_32 ⟨(Nat.le_of_ble_eq_true rfl), (Nat.le_of_ble_eq_true rfl)⟩ rfl (fun r w1 H locs hQ V => ?_)
        obtain ⟨rfl, rfl⟩ := hQ
        have V : gW D T A s [(o, .inr (7, [.ref n0, .ref s0, .ref im, .ref iz, .ref rw, .ref t0, .ref u0, .ref h0, .ref y0, sv])), (n0, .inr (5, [.int (nI nn), .int nm, .int nl, .int no, .int nu, .ref n1, .ref n2, .ref n3, .ref n4, .ref n5, .ref n6, .ref n7, .ref n8, .ref n9, .ref n10])), (n1, .inl (T 0, 10, .inl nf1)), (n2, .inl (T 0, 10, .inl nf2)), (n3, .inl (T 0, 10, .inl nf3)), (n4, .inl (T 0, 10, .inl nf4)), (n5, .inl (T 0, 10, .inl nf5)), (n9, .inl (T 0, 10, .inl nf9)), (n10, .inl (T 0, 10, .inl ga))] H locs := V _ [1] rfl rfl rfl (by decide +kernel) rfl
        show W p l e _ s m args below meth c H locs _ _ _ (F0 m 35 ls [.int (nI (2 ^ nn - 1)), .int (nI k26)])
        refine lv_icmp_gt (tgt := 67) hx hb dX7_peace_35 (by decide) (fun c_7 => ?_) (fun c_7 => ?_)
        · skip
          have c_7 := b_lt (by omega) (by omega) c_7
          refine lv_iload_n hx hb dX7_peace_67 rfl (lv_at hl 4 rfl) ?_
          refine lv_if_ne (tgt := 75) hx hb dX7_peace_68 (by decide) (fun c_8 => ?_) (fun c_8 => ?_)
          · skip
            refine lv_iload_n hx hb dX7_peace_75 rfl (lv_at hl 2 rfl) ?_
            exact g_iret (Qr := (q_x_peace T o wh n0 s0 im iz rw t0 u0 h0 y0 sv nn nm nl no nu n1 n2 n3 n4 n5 n6 n7 n8 n9 n10 nf1 nf2 nf3 nf4 nf5 nf9 nf10)) hC V ⟨(Nat.le_of_ble_eq_true rfl), (Nat.le_of_ble_eq_true rfl)⟩ ⟨x26_2, ga, rfl, rfl⟩ dX7_peace_76
          · skip
            refine lv_iload_n hx hb dX7_peace_71 rfl (lv_at hl 1 rfl) ?_
            refine lv_goto (tgt := 76) hx hb dX7_peace_72 (by decide) ?_
            exact g_iret (Qr := (q_x_peace T o wh n0 s0 im iz rw t0 u0 h0 y0 sv nn nm nl no nu n1 n2 n3 n4 n5 n6 n7 n8 n9 n10 nf1 nf2 nf3 nf4 nf5 nf9 nf10)) hC V ⟨(Nat.le_of_ble_eq_true rfl), (Nat.le_of_ble_eq_true rfl)⟩ ⟨x26_3, ga, rfl, rfl⟩ dX7_peace_76
        · skip
          have c_7 := b_nlt (by omega) (by omega) c_7
          refine lv_aload_n hx hb dX7_peace_38 rfl (lv_at hl 3 rfl) ?_
          refine g_get hC V (ci := 7) uwX7 0 rfl rfl 0 (by decide) w_249 rfl rfl dX7_peace_39 ?_
          refine lv_iload hx hb dX7_peace_42 (lv_at hl 0 rfl) ?_
          refine g_callVU (nA := 1) hC V hl.1 (s_payTogether l D T n0 (nI k26) nn nm nl no nu n1 n2 n3 n4 n5 n6 n7 n8 n9 n10 nf1 nf2 nf3 nf4 nf5 nf9 ga (by first | assumption | omega) (by first | assumption | omega)) w_677 w_678 w_679 w_3 w_680 (by decide +kernel) rfl ⟨(Nat.le_of_ble_eq_true rfl), (Nat.le_of_ble_eq_true rfl)⟩ 1 (ci := 5) rfl rfl [1, 2, 3, 4, 5, 6, 7, 8] rfl rfl (Nat.le_of_ble_eq_true rfl) dX7_peace_44 ⟨(Nat.le_of_ble_eq_true rfl), (Nat.le_of_ble_eq_true rfl)⟩ rfl (fun r w1 H locs hQ V => ?_)
          obtain ⟨z_9, g10_10, rfl, rfl⟩ := hQ
          have V : gW D T A s [(o, .inr (7, [.ref n0, .ref s0, .ref im, .ref iz, .ref rw, .ref t0, .ref u0, .ref h0, .ref y0, sv])), (n0, .inr (5, [.int (nI nn), .int nm, .int nl, .int no, .int nu, .ref n1, .ref n2, .ref n3, .ref n4, .ref n5, .ref n6, .ref n7, .ref n8, .ref n9, .ref n10])), (n1, .inl (T 0, 10, .inl nf1)), (n2, .inl (T 0, 10, .inl nf2)), (n3, .inl (T 0, 10, .inl nf3)), (n4, .inl (T 0, 10, .inl nf4)), (n5, .inl (T 0, 10, .inl nf5)), (n9, .inl (T 0, 10, .inl nf9)), (n10, .inl (T 0, 10, .inl g10_10))] H locs := V _ [1, 0, 0, 0, 0, 0, 0, 0] rfl rfl rfl (by decide +kernel) rfl
          show W p l e _ s m args below meth c H locs _ _ _ (F0 m 47 ls [.int z_9])
          refine lv_istore (lv' := [(5, .int z_9), (4, .int (nI k26)), (3, .int x26_3), (2, .int x26_2), (0, .ref o), (1, .int wh)]) hx hb dX7_peace_47 hl (by decide) rfl (fun ls hl => ?_)
          refine lv_iload hx hb dX7_peace_49 (lv_at hl 0 rfl) ?_
          refine lv_iload_n hx hb dX7_peace_51 rfl (lv_at hl 2 rfl) ?_
          refine lv_icmp_le (tgt := 61) hx hb dX7_peace_52 (by decide) (fun c_11 => ?_) (fun c_11 => ?_)
          · skip
            refine lv_iinc (v := (nI (k26 + 1))) (lv' := [(4, .int (nI (k26 + 1))), (5, .int z_9), (3, .int x26_3), (2, .int x26_2), (0, .ref o), (1, .int wh)]) hx hb dX7_peace_61 hl (k := 1) rfl (nI_1 _) (by decide) rfl (fun ls hl => ?_)
            refine lv_goto (tgt := 26) hx hb dX7_peace_64 (by decide) ?_
            exact ih_26 (k26 + 1) x26_3 x26_2 g10_10 (by omega) (by omega) _ _ _ V (lv_sub hl [0, 2, 3, 4, 5] rfl)
          · skip
            refine lv_iload hx hb dX7_peace_55 (lv_at hl 0 rfl) ?_
            refine lv_istore_n (lv' := [(3, .int z_9), (5, .int z_9), (4, .int (nI k26)), (2, .int x26_2), (0, .ref o), (1, .int wh)]) hx hb dX7_peace_57 rfl hl (by decide) rfl (fun ls hl => ?_)
            refine lv_iload hx hb dX7_peace_58 (lv_at hl 2 rfl) ?_
            refine lv_istore_n (lv' := [(2, .int (nI k26)), (3, .int z_9), (5, .int z_9), (4, .int (nI k26)), (0, .ref o), (1, .int wh)]) hx hb dX7_peace_60 rfl hl (by decide) rfl (fun ls hl => ?_)
            refine lv_iinc (v := (nI (k26 + 1))) (lv' := [(4, .int (nI (k26 + 1))), (2, .int (nI k26)), (3, .int z_9), (5, .int z_9), (0, .ref o), (1, .int wh)]) hx hb dX7_peace_61 hl (k := 3) rfl (nI_1 _) (by decide) rfl (fun ls hl => ?_)
            refine lv_goto (tgt := 26) hx hb dX7_peace_64 (by decide) ?_
            exact ih_26 (k26 + 1) z_9 (nI k26) g10_10 (by omega) (by omega) _ _ _ V (lv_sub hl [0, 2, 1, 4, 5] rfl)
    exact L_6 _ 1 z_4 (nI 0) g10_5 (by omega) (Nat.lt_succ_self _) _ _ _ V (lv_sub hl [0, 1, 2, 3, 4] rfl)
  · have V : gW D T A s [(o, .inr (7, [.ref n0, .ref s0, .ref im, .ref iz, .ref rw, .ref t0, .ref u0, .ref h0, .ref y0, sv])), (n0, .inr (5, [.int (nI nn), .int nm, .int nl, .int no, .int nu, .ref n1, .ref n2, .ref n3, .ref n4, .ref n5, .ref n6, .ref n7, .ref n8, .ref n9, .ref n10])), (n1, .inl (T 0, 10, .inl nf1)), (n2, .inl (T 0, 10, .inl nf2)), (n3, .inl (T 0, 10, .inl nf3)), (n4, .inl (T 0, 10, .inl nf4)), (n5, .inl (T 0, 10, .inl nf5)), (n9, .inl (T 0, 10, .inl nf9)), (n10, .inl (T 0, 10, .inl nf10))] H locs := V _ [] rfl rfl rfl (by decide +kernel) rfl
    show W p l e _ s m args below meth c H locs _ _ _ (F0 m 6 ls [.int (nI 0)])
    refine lv_if_ne (tgt := 12) hx hb dX7_peace_6 (by decide) (fun c => absurd (show (nI 0) = 0 by decide +kernel) c) (fun _ => ?_)
    refine lv_bipush (v := (-2)) hx hb dX7_peace_9 (by decide +kernel) ?_
    exact g_iret (Qr := (q_x_peace T o wh n0 s0 im iz rw t0 u0 h0 y0 sv nn nm nl no nu n1 n2 n3 n4 n5 n6 n7 n8 n9 n10 nf1 nf2 nf3 nf4 nf5 nf9 nf10)) hC V ⟨(Nat.le_of_ble_eq_true rfl), (Nat.le_of_ble_eq_true rfl)⟩ ⟨(-2), nf10, rfl, rfl⟩ dX7_peace_11

def q_x_selfish (T : Nat → ClassId) (o : Nat) (k : Int32) (n0 : Nat) (s0 : Nat) (im : Nat) (iz : Nat) (rw : Nat) (t0 : Nat) (u0 : Nat) (h0 : Nat) (y0 : Nat) (sv : Value) (nn : Nat) (nm : Int32) (nl : Int32) (no : Int32) (nu : Int32) (n1 : Nat) (n2 : Nat) (n3 : Nat) (n4 : Nat) (n5 : Nat) (n6 : Nat) (n7 : Nat) (n8 : Nat) (n9 : Nat) (n10 : Nat) (nf1 : Nat → Int32) (nf2 : Nat → Int32) (nf3 : Nat → Int32) (nf4 : Nat → Int32) (nf5 : Nat → Int32) (nf9 : Nat → Int32) : Option Value → va_W → Prop := fun rr ww => (∃ (z : Int32), rr = some (.int z) ∧ ww = [(o, .inr (7, [.ref n0, .ref s0, .ref im, .ref iz, .ref rw, .ref t0, .ref u0, .ref h0, .ref y0, sv])), (n0, .inr (5, [.int (nI nn), .int nm, .int nl, .int no, .int nu, .ref n1, .ref n2, .ref n3, .ref n4, .ref n5, .ref n6, .ref n7, .ref n8, .ref n9, .ref n10])), (n1, .inl (T 0, 10, .inl nf1)), (n2, .inl (T 0, 10, .inl nf2)), (n3, .inl (T 0, 10, .inl nf3)), (n4, .inl (T 0, 10, .inl nf4)), (n5, .inl (T 0, 10, .inl nf5)), (n9, .inl (T 0, 10, .inl nf9))])
set_option maxHeartbeats 4000000 in
set_option maxRecDepth 100000 in
theorem x_selfish (l : Launch) (D : va_G) (T : Nat → ClassId) (o : Nat) (k : Int32) (n0 : Nat) (s0 : Nat) (im : Nat) (iz : Nat) (rw : Nat) (t0 : Nat) (u0 : Nat) (h0 : Nat) (y0 : Nat) (sv : Value) (nn : Nat) (nm : Int32) (nl : Int32) (no : Int32) (nu : Int32) (n1 : Nat) (n2 : Nat) (n3 : Nat) (n4 : Nat) (n5 : Nat) (n6 : Nat) (n7 : Nat) (n8 : Nat) (n9 : Nat) (n10 : Nat) (nf1 : Nat → Int32) (nf2 : Nat → Int32) (nf3 : Nat → Int32) (nf4 : Nat → Int32) (nf5 : Nat → Int32) (nf9 : Nat → Int32) (h_n : nn ≤ 10) : Ct l yX7_selfish cX7_selfish 4 (some .int) 5 0 0 D T [.ref o, .int k] [(o, .inr (7, [.ref n0, .ref s0, .ref im, .ref iz, .ref rw, .ref t0, .ref u0, .ref h0, .ref y0, sv])), (n0, .inr (5, [.int (nI nn), .int nm, .int nl, .int no, .int nu, .ref n1, .ref n2, .ref n3, .ref n4, .ref n5, .ref n6, .ref n7, .ref n8, .ref n9, .ref n10])), (n1, .inl (T 0, 10, .inl nf1)), (n2, .inl (T 0, 10, .inl nf2)), (n3, .inl (T 0, 10, .inl nf3)), (n4, .inl (T 0, 10, .inl nf4)), (n5, .inl (T 0, 10, .inl nf5)), (n9, .inl (T 0, 10, .inl nf9))] (q_x_selfish T o k n0 s0 im iz rw t0 u0 h0 y0 sv nn nm nl no nu n1 n2 n3 n4 n5 n6 n7 n8 n9 n10 nf1 nf2 nf3 nf4 nf5 nf9) := by
  refine Ct.of (cc := cX7_selfish) (maxL := 4) (ret := (some .int)) (by decide) (Nat.le_of_ble_eq_true rfl) ?_
  intro p e s m args below meth c A ls hC hnm V hl
  obtain ⟨hx, hb, hr, hml, hown, hts, hlocks⟩ := id hC
  generalize hH : s.heap = H at V ⊢
  clear hH
  have hl : lv_has ls 4 [(0, .ref o), (1, .int k)] := hl
  generalize hlo : ([] : List Loc) = locs at V ⊢
  clear hlo
  have hpw := pw10 h_n
  refine lv_iload_n hx hb dX7_selfish_0 rfl (lv_at hl 1 rfl) ?_
  refine lv_iconst (v := (-1)) hx hb dX7_selfish_1 (by decide +kernel) ?_
  refine lv_icmp_ge (tgt := 7) hx hb dX7_selfish_2 (by decide) (fun c_1 => ?_) (fun c_1 => ?_)
  · skip
    refine lv_iconst (v := (nI 0)) hx hb dX7_selfish_7 (by decide +kernel) ?_
    refine lv_istore_n (lv' := [(2, .int (nI 0)), (0, .ref o), (1, .int k)]) hx hb dX7_selfish_8 rfl hl (by decide) rfl (fun ls hl => ?_)
    refine lv_iconst (v := (nI 0)) hx hb dX7_selfish_9 (by decide +kernel) ?_
    refine lv_istore_n (lv' := [(3, .int (nI 0)), (2, .int (nI 0)), (0, .ref o), (1, .int k)]) hx hb dX7_selfish_10 rfl hl (by decide) rfl (fun ls hl => ?_)
    have L_2 : ∀ (fu : Nat) (k11 : Nat) (x11_2 : Int32), k11 ≤ 2 ^ nn → 2 ^ nn - k11 < fu → ∀ (H : Heap) (locs : List Loc) (ls : Array Slot), gW D T A s [(o, .inr (7, [.ref n0, .ref s0, .ref im, .ref iz, .ref rw, .ref t0, .ref u0, .ref h0, .ref y0, sv])), (n0, .inr (5, [.int (nI nn), .int nm, .int nl, .int no, .int nu, .ref n1, .ref n2, .ref n3, .ref n4, .ref n5, .ref n6, .ref n7, .ref n8, .ref n9, .ref n10])), (n1, .inl (T 0, 10, .inl nf1)), (n2, .inl (T 0, 10, .inl nf2)), (n3, .inl (T 0, 10, .inl nf3)), (n4, .inl (T 0, 10, .inl nf4)), (n5, .inl (T 0, 10, .inl nf5)), (n9, .inl (T 0, 10, .inl nf9))] H locs → lv_has ls 4 [(3, .int (nI k11)), (2, .int x11_2), (0, .ref o), (1, .int k)] → W p l e (rmD 5 0 0) s m args below meth c H locs 0 0 (MQ below (gQ D A (q_x_selfish T o k n0 s0 im iz rw t0 u0 h0 y0 sv nn nm nl no nu n1 n2 n3 n4 n5 n6 n7 n8 n9 n10 nf1 nf2 nf3 nf4 nf5 nf9)) args s 0 0 A) (F0 m 11 ls []) := by
      intro fu_11
      induction fu_11 with
      | zero => intro k11 x11_2 hk11 hmu; exact absurd hmu (Nat.not_lt_zero _)
      | succ fu_11 ih_11 =>
        intro k11 x11_2 hk11 hmu_11 H locs ls V hl
        refine lv_iload_n hx hb dX7_selfish_11 rfl (lv_at hl 0 rfl) ?_
        refine lv_aload_n hx hb dX7_selfish_12 rfl (lv_at hl 2 rfl) ?_
        refine g_get hC V (ci := 7) uwX7 0 rfl rfl 0 (by decide) w_249 rfl rfl dX7_selfish_13 ?_
        refine g_callVU (nA := 0) hC V hl.1 (s_everyone l D T n0 nn nm nl no nu n1 n2 n3 n4 n5 n6 n7 n8 n9 n10 (by first | assumption | omega)) w_682 w_463 w_464 w_3 w_465 (by decide +kernel) rfl ⟨(Nat.le_of_ble_eq_true rfl), (Nat.le_of_ble_eq_true rfl)⟩ 1 (ci := 5) rfl rfl [1] rfl rfl (Nat.le_of_ble_eq_true rfl) dX7_selfish_16 ⟨(Nat.le_of_ble_eq_true rfl), (Nat.le_of_ble_eq_true rfl)⟩ rfl (fun r w1 H locs hQ V => ?_)
        obtain ⟨rfl, rfl⟩ := hQ
        have V : gW D T A s [(o, .inr (7, [.ref n0, .ref s0, .ref im, .ref iz, .ref rw, .ref t0, .ref u0, .ref h0, .ref y0, sv])), (n0, .inr (5, [.int (nI nn), .int nm, .int nl, .int no, .int nu, .ref n1, .ref n2, .ref n3, .ref n4, .ref n5, .ref n6, .ref n7, .ref n8, .ref n9, .ref n10])), (n1, .inl (T 0, 10, .inl nf1)), (n2, .inl (T 0, 10, .inl nf2)), (n3, .inl (T 0, 10, .inl nf3)), (n4, .inl (T 0, 10, .inl nf4)), (n5, .inl (T 0, 10, .inl nf5)), (n9, .inl (T 0, 10, .inl nf9))] H locs := V _ [1] rfl rfl rfl (by decide +kernel) rfl
        show W p l e _ s m args below meth c H locs _ _ _ (F0 m 19 ls [.int (nI (2 ^ nn - 1)), .int (nI k11)])
        refine lv_icmp_gt (tgt := 49) hx hb dX7_selfish_19 (by decide) (fun c_3 => ?_) (fun c_3 => ?_)
        · skip
          have c_3 := b_lt (by omega) (by omega) c_3
          refine lv_iload_n hx hb dX7_selfish_49 rfl (lv_at hl 3 rfl) ?_
          refine lv_iconst (v := (-1)) hx hb dX7_selfish_50 (by decide +kernel) ?_
          refine lv_icmp_ne (tgt := 58) hx hb dX7_selfish_51 (by decide) (fun c_4 => ?_) (fun c_4 => ?_)
          · skip
            refine lv_iconst (v := (-1)) hx hb dX7_selfish_58 (by decide +kernel) ?_
            exact g_iret (Qr := (q_x_selfish T o k n0 s0 im iz rw t0 u0 h0 y0 sv nn nm nl no nu n1 n2 n3 n4 n5 n6 n7 n8 n9 n10 nf1 nf2 nf3 nf4 nf5 nf9)) hC V ⟨(Nat.le_of_ble_eq_true rfl), (Nat.le_of_ble_eq_true rfl)⟩ ⟨(-1), rfl, rfl⟩ dX7_selfish_59
          · skip
            refine lv_iload_n hx hb dX7_selfish_54 rfl (lv_at hl 1 rfl) ?_
            refine lv_goto (tgt := 59) hx hb dX7_selfish_55 (by decide) ?_
            exact g_iret (Qr := (q_x_selfish T o k n0 s0 im iz rw t0 u0 h0 y0 sv nn nm nl no nu n1 n2 n3 n4 n5 n6 n7 n8 n9 n10 nf1 nf2 nf3 nf4 nf5 nf9)) hC V ⟨(Nat.le_of_ble_eq_true rfl), (Nat.le_of_ble_eq_true rfl)⟩ ⟨x11_2, rfl, rfl⟩ dX7_selfish_59
        · skip
          have c_3 := b_nlt (by omega) (by omega) c_3
          refine lv_aload_n hx hb dX7_selfish_22 rfl (lv_at hl 2 rfl) ?_
          refine g_get hC V (ci := 7) uwX7 0 rfl rfl 0 (by decide) w_249 rfl rfl dX7_selfish_23 ?_
          refine lv_iload_n hx hb dX7_selfish_26 rfl (lv_at hl 0 rfl) ?_
          refine g_callVU (nA := 1) hC V hl.1 (s_isSelfish l D T n0 (nI k11) nn nm nl no nu n1 n2 n3 n4 n5 n6 n7 n8 n9 n10 nf1 nf2 nf3 nf4 nf5 nf9 (by first | assumption | omega)) w_687 w_688 w_689 w_3 w_690 (by decide +kernel) rfl ⟨(Nat.le_of_ble_eq_true rfl), (Nat.le_of_ble_eq_true rfl)⟩ 1 (ci := 5) rfl rfl [1, 2, 3, 4, 5, 6, 7] rfl rfl (Nat.le_of_ble_eq_true rfl) dX7_selfish_27 ⟨(Nat.le_of_ble_eq_true rfl), (Nat.le_of_ble_eq_true rfl)⟩ rfl (fun r w1 H locs hQ V => ?_)
          rcases hQ with ⟨rfl, rfl⟩ | ⟨rfl, rfl⟩
          · have V : gW D T A s [(o, .inr (7, [.ref n0, .ref s0, .ref im, .ref iz, .ref rw, .ref t0, .ref u0, .ref h0, .ref y0, sv])), (n0, .inr (5, [.int (nI nn), .int nm, .int nl, .int no, .int nu, .ref n1, .ref n2, .ref n3, .ref n4, .ref n5, .ref n6, .ref n7, .ref n8, .ref n9, .ref n10])), (n1, .inl (T 0, 10, .inl nf1)), (n2, .inl (T 0, 10, .inl nf2)), (n3, .inl (T 0, 10, .inl nf3)), (n4, .inl (T 0, 10, .inl nf4)), (n5, .inl (T 0, 10, .inl nf5)), (n9, .inl (T 0, 10, .inl nf9))] H locs := V _ [1, 0, 0, 0, 0, 0, 0] rfl rfl rfl (by decide +kernel) rfl
            show W p l e _ s m args below meth c H locs _ _ _ (F0 m 30 ls [.int (nI 1)])
            refine lv_if_eq (tgt := 43) hx hb dX7_selfish_30 (by decide) (fun c => absurd (show (nI 1) = 0 from c) (by decide +kernel)) (fun _ => ?_)
            refine lv_iload_n hx hb dX7_selfish_33 rfl (lv_at hl 1 rfl) ?_
            refine lv_iload_n hx hb dX7_selfish_34 rfl (lv_at hl 3 rfl) ?_
            refine lv_icmp_ne (tgt := 40) hx hb dX7_selfish_35 (by decide) (fun c_5 => ?_) (fun c_5 => ?_)
            · skip
              refine lv_iinc (v := (x11_2 + 1)) (lv' := [(2, .int (x11_2 + 1)), (3, .int (nI k11)), (0, .ref o), (1, .int k)]) hx hb dX7_selfish_40 hl (k := 1) rfl rfl (by decide) rfl (fun ls hl => ?_)
              refine lv_iinc (v := (nI (k11 + 1))) (lv' := [(3, .int (nI (k11 + 1))), (2, .int (x11_2 + 1)), (0, .ref o), (1, .int k)]) hx hb dX7_selfish_43 hl (k := 1) rfl (nI_1 _) (by decide) rfl (fun ls hl => ?_)
              refine lv_goto (tgt := 11) hx hb dX7_selfish_46 (by decide) ?_
              exact ih_11 (k11 + 1) (x11_2 + 1) (by omega) (by omega) _ _ _ V (lv_sub hl [0, 1, 2, 3] rfl)
            · skip
              refine lv_iload_n hx hb dX7_selfish_38 rfl (lv_at hl 0 rfl) ?_
              exact g_iret (Qr := (q_x_selfish T o k n0 s0 im iz rw t0 u0 h0 y0 sv nn nm nl no nu n1 n2 n3 n4 n5 n6 n7 n8 n9 n10 nf1 nf2 nf3 nf4 nf5 nf9)) hC V ⟨(Nat.le_of_ble_eq_true rfl), (Nat.le_of_ble_eq_true rfl)⟩ ⟨(nI k11), rfl, rfl⟩ dX7_selfish_39
          · have V : gW D T A s [(o, .inr (7, [.ref n0, .ref s0, .ref im, .ref iz, .ref rw, .ref t0, .ref u0, .ref h0, .ref y0, sv])), (n0, .inr (5, [.int (nI nn), .int nm, .int nl, .int no, .int nu, .ref n1, .ref n2, .ref n3, .ref n4, .ref n5, .ref n6, .ref n7, .ref n8, .ref n9, .ref n10])), (n1, .inl (T 0, 10, .inl nf1)), (n2, .inl (T 0, 10, .inl nf2)), (n3, .inl (T 0, 10, .inl nf3)), (n4, .inl (T 0, 10, .inl nf4)), (n5, .inl (T 0, 10, .inl nf5)), (n9, .inl (T 0, 10, .inl nf9))] H locs := V _ [1, 0, 0, 0, 0, 0, 0] rfl rfl rfl (by decide +kernel) rfl
            show W p l e _ s m args below meth c H locs _ _ _ (F0 m 30 ls [.int (nI 0)])
            refine lv_if_eq (tgt := 43) hx hb dX7_selfish_30 (by decide) (fun _ => ?_) (fun c => absurd (show (nI 0) = 0 by decide +kernel) c)
            refine lv_iinc (v := (nI (k11 + 1))) (lv' := [(3, .int (nI (k11 + 1))), (2, .int x11_2), (0, .ref o), (1, .int k)]) hx hb dX7_selfish_43 hl (k := 0) rfl (nI_1 _) (by decide) rfl (fun ls hl => ?_)
            refine lv_goto (tgt := 11) hx hb dX7_selfish_46 (by decide) ?_
            exact ih_11 (k11 + 1) x11_2 (by omega) (by omega) _ _ _ V (lv_sub hl [0, 1, 2, 3] rfl)
    exact L_2 _ 0 (nI 0) (by omega) (Nat.lt_succ_self _) _ _ _ V (lv_sub hl [0, 1, 2, 3] rfl)
  · skip
    refine lv_iconst (v := (-1)) hx hb dX7_selfish_5 (by decide +kernel) ?_
    exact g_iret (Qr := (q_x_selfish T o k n0 s0 im iz rw t0 u0 h0 y0 sv nn nm nl no nu n1 n2 n3 n4 n5 n6 n7 n8 n9 n10 nf1 nf2 nf3 nf4 nf5 nf9)) hC V ⟨(Nat.le_of_ble_eq_true rfl), (Nat.le_of_ble_eq_true rfl)⟩ ⟨(-1), rfl, rfl⟩ dX7_selfish_6

def q_x_seen (T : Nat → ClassId) (o : Nat) (row : Int32) (n0 : Nat) (s0 : Nat) (im : Nat) (iz : Nat) (rw : Nat) (t0 : Nat) (u0 : Nat) (h0 : Nat) (y0 : Nat) (sv : Value) (ra0 : Nat) (rb0 : Nat) (rc0 : Nat) (rd0 : Nat) (rah : Int32) (raz : Nat) (ra1 : Nat) (ras : Nat) (raf : Nat → Int64) (rbh : Int32) (rbz : Nat) (rb1 : Nat) (rbs : Nat) (rbf : Nat → Int64) (rch : Int32) (rcz : Nat) (rc1 : Nat) (rcs : Nat) (rcf : Nat → Int64) (rdh : Int32) (rdz : Nat) (rd1 : Nat) (rds : Nat) (rdf : Nat → Int64) (nn : Nat) (nm : Int32) (nl : Int32) (no : Int32) (nu : Int32) (n1 : Nat) (n2 : Nat) (n3 : Nat) (n4 : Nat) (n5 : Nat) (n6 : Nat) (n7 : Nat) (n8 : Nat) (n9 : Nat) (n10 : Nat) (nf1 : Nat → Int32) (nf2 : Nat → Int32) (nf3 : Nat → Int32) (nf9 : Nat → Int32) : Option Value → va_W → Prop := fun rr ww => (∃ (z : Int32), rr = some (.int z) ∧ ww = [(o, .inr (7, [.ref n0, .ref s0, .ref im, .ref iz, .ref rw, .ref t0, .ref u0, .ref h0, .ref y0, sv])), (rw, .inl (T 5, 4, .inr (.inr (.inr (.inr (va_up (va_up (va_up (va_up (fun _ => none) 0 (some ra0)) 1 (some rb0)) 2 (some rc0)) 3 (some rd0))))))), (ra0, .inr (1, [.int rah, .int (nI raz), .ref ra1, .int (nI ras)])), (ra1, .inl (T 1, 40, .inr (.inl raf))), (rb0, .inr (1, [.int rbh, .int (nI rbz), .ref rb1, .int (nI rbs)])), (rb1, .inl (T 1, 40, .inr (.inl rbf))), (rc0, .inr (1, [.int rch, .int (nI rcz), .ref rc1, .int (nI rcs)])), (rc1, .inl (T 1, 40, .inr (.inl rcf))), (rd0, .inr (1, [.int rdh, .int (nI rdz), .ref rd1, .int (nI rds)])), (rd1, .inl (T 1, 40, .inr (.inl rdf))), (n0, .inr (5, [.int (nI nn), .int nm, .int nl, .int no, .int nu, .ref n1, .ref n2, .ref n3, .ref n4, .ref n5, .ref n6, .ref n7, .ref n8, .ref n9, .ref n10])), (n1, .inl (T 0, 10, .inl nf1)), (n2, .inl (T 0, 10, .inl nf2)), (n3, .inl (T 0, 10, .inl nf3)), (n9, .inl (T 0, 10, .inl nf9))])
set_option maxHeartbeats 4000000 in
set_option maxRecDepth 100000 in
theorem x_seen (l : Launch) (D : va_G) (T : Nat → ClassId) (o : Nat) (row : Int32) (n0 : Nat) (s0 : Nat) (im : Nat) (iz : Nat) (rw : Nat) (t0 : Nat) (u0 : Nat) (h0 : Nat) (y0 : Nat) (sv : Value) (ra0 : Nat) (rb0 : Nat) (rc0 : Nat) (rd0 : Nat) (rah : Int32) (raz : Nat) (ra1 : Nat) (ras : Nat) (raf : Nat → Int64) (rbh : Int32) (rbz : Nat) (rb1 : Nat) (rbs : Nat) (rbf : Nat → Int64) (rch : Int32) (rcz : Nat) (rc1 : Nat) (rcs : Nat) (rcf : Nat → Int64) (rdh : Int32) (rdz : Nat) (rd1 : Nat) (rds : Nat) (rdf : Nat → Int64) (nn : Nat) (nm : Int32) (nl : Int32) (no : Int32) (nu : Int32) (n1 : Nat) (n2 : Nat) (n3 : Nat) (n4 : Nat) (n5 : Nat) (n6 : Nat) (n7 : Nat) (n8 : Nat) (n9 : Nat) (n10 : Nat) (nf1 : Nat → Int32) (nf2 : Nat → Int32) (nf3 : Nat → Int32) (nf9 : Nat → Int32) (h_n : nn ≤ 10) (h_zra : raz ≤ 40) (h_zrb : rbz ≤ 40) (h_zrc : rcz ≤ 40) (h_zrd : rdz ≤ 40) (h_sra : ras ≤ 3) (h_srb : rbs ≤ 3) (h_src : rcs ≤ 3) (h_srd : rds ≤ 3) : Ct l yX7_seen cX7_seen 5 (some .int) 4 0 0 D T [.ref o, .int row] [(o, .inr (7, [.ref n0, .ref s0, .ref im, .ref iz, .ref rw, .ref t0, .ref u0, .ref h0, .ref y0, sv])), (rw, .inl (T 5, 4, .inr (.inr (.inr (.inr (va_up (va_up (va_up (va_up (fun _ => none) 0 (some ra0)) 1 (some rb0)) 2 (some rc0)) 3 (some rd0))))))), (ra0, .inr (1, [.int rah, .int (nI raz), .ref ra1, .int (nI ras)])), (ra1, .inl (T 1, 40, .inr (.inl raf))), (rb0, .inr (1, [.int rbh, .int (nI rbz), .ref rb1, .int (nI rbs)])), (rb1, .inl (T 1, 40, .inr (.inl rbf))), (rc0, .inr (1, [.int rch, .int (nI rcz), .ref rc1, .int (nI rcs)])), (rc1, .inl (T 1, 40, .inr (.inl rcf))), (rd0, .inr (1, [.int rdh, .int (nI rdz), .ref rd1, .int (nI rds)])), (rd1, .inl (T 1, 40, .inr (.inl rdf))), (n0, .inr (5, [.int (nI nn), .int nm, .int nl, .int no, .int nu, .ref n1, .ref n2, .ref n3, .ref n4, .ref n5, .ref n6, .ref n7, .ref n8, .ref n9, .ref n10])), (n1, .inl (T 0, 10, .inl nf1)), (n2, .inl (T 0, 10, .inl nf2)), (n3, .inl (T 0, 10, .inl nf3)), (n9, .inl (T 0, 10, .inl nf9))] (q_x_seen T o row n0 s0 im iz rw t0 u0 h0 y0 sv ra0 rb0 rc0 rd0 rah raz ra1 ras raf rbh rbz rb1 rbs rbf rch rcz rc1 rcs rcf rdh rdz rd1 rds rdf nn nm nl no nu n1 n2 n3 n4 n5 n6 n7 n8 n9 n10 nf1 nf2 nf3 nf9) := by
  refine Ct.of (cc := cX7_seen) (maxL := 5) (ret := (some .int)) (by decide) (Nat.le_of_ble_eq_true rfl) ?_
  intro p e s m args below meth c A ls hC hnm V hl
  obtain ⟨hx, hb, hr, hml, hown, hts, hlocks⟩ := id hC
  generalize hH : s.heap = H at V ⊢
  clear hH
  have hl : lv_has ls 5 [(0, .ref o), (1, .int row)] := hl
  generalize hlo : ([] : List Loc) = locs at V ⊢
  clear hlo
  have hpw := pw10 h_n
  refine lv_aload_n hx hb dX7_seen_0 rfl (lv_at hl 0 rfl) ?_
  refine lv_iload_n hx hb dX7_seen_1 rfl (lv_at hl 1 rfl) ?_
  refine g_callVU (nA := 1) hC V hl.1 (x_refusedSeen l D T o row n0 s0 im iz rw t0 u0 h0 y0 sv ra0 rb0 rc0 rd0 rah raz ra1 ras raf rbh rbz rb1 rbs rbf rch rcz rc1 rcs rcf rdh rdz rd1 rds rdf nn nm nl no nu n1 n2 n3 n4 n5 n6 n7 n8 n9 n10 (by first | assumption | omega) (by first | assumption | omega) (by first | assumption | omega) (by first | assumption | omega) (by first | assumption | omega) (by first | assumption | omega) (by first | assumption | omega) (by first | assumption | omega) (by first | assumption | omega)) w_598 w_600 w_s16 w_2 w_601 (by decide +kernel) rfl ⟨(Nat.le_of_ble_eq_true rfl), (Nat.le_of_ble_eq_true rfl)⟩ 0 (ci := 7) rfl rfl [0, 1, 2, 3, 4, 5, 6, 7, 8, 9, 10] rfl rfl (Nat.le_of_ble_eq_true rfl) dX7_seen_2 ⟨(Nat.le_of_ble_eq_true rfl), (Nat.le_of_ble_eq_true rfl)⟩ rfl (fun r w1 H locs hQ V => ?_)
  rcases hQ with ⟨rfl, rfl, f_1, f_2⟩ | ⟨z_3, rfl, rfl, f_4⟩
  · have V : gW D T A s [(o, .inr (7, [.ref n0, .ref s0, .ref im, .ref iz, .ref rw, .ref t0, .ref u0, .ref h0, .ref y0, sv])), (rw, .inl (T 5, 4, .inr (.inr (.inr (.inr (va_up (va_up (va_up (va_up (fun _ => none) 0 (some ra0)) 1 (some rb0)) 2 (some rc0)) 3 (some rd0))))))), (ra0, .inr (1, [.int rah, .int (nI raz), .ref ra1, .int (nI ras)])), (ra1, .inl (T 1, 40, .inr (.inl raf))), (rb0, .inr (1, [.int rbh, .int (nI rbz), .ref rb1, .int (nI rbs)])), (rb1, .inl (T 1, 40, .inr (.inl rbf))), (rc0, .inr (1, [.int rch, .int (nI rcz), .ref rc1, .int (nI rcs)])), (rc1, .inl (T 1, 40, .inr (.inl rcf))), (rd0, .inr (1, [.int rdh, .int (nI rdz), .ref rd1, .int (nI rds)])), (rd1, .inl (T 1, 40, .inr (.inl rdf))), (n0, .inr (5, [.int (nI nn), .int nm, .int nl, .int no, .int nu, .ref n1, .ref n2, .ref n3, .ref n4, .ref n5, .ref n6, .ref n7, .ref n8, .ref n9, .ref n10])), (n1, .inl (T 0, 10, .inl nf1)), (n2, .inl (T 0, 10, .inl nf2)), (n3, .inl (T 0, 10, .inl nf3)), (n9, .inl (T 0, 10, .inl nf9))] H locs := V _ [0, 0, 0, 0, 0, 0, 0, 0, 0, 0, 0] rfl rfl rfl (by decide +kernel) rfl
    show W p l e _ s m args below meth c H locs _ _ _ (F0 m 5 ls [.int (nI 0)])
    obtain ⟨j_5, hj_5, ej_5⟩ := g_idx (n := 4) (by decide) f_1 f_2
    rw [ej_5] at hl
    have hj_5 : j_5 = 0 ∨ j_5 = 1 ∨ j_5 = 2 ∨ j_5 = 3 := by omega
    rcases hj_5 with rfl | rfl | rfl | rfl
    · skip
      refine lv_istore_n (lv' := [(2, .int (nI 0)), (0, .ref o), (1, .int (nI 0))]) hx hb dX7_seen_5 rfl hl (by decide) rfl (fun ls hl => ?_)
      refine lv_iload_n hx hb dX7_seen_6 rfl (lv_at hl 0 rfl) ?_
      refine lv_if_eq (tgt := 12) hx hb dX7_seen_7 (by decide) (fun _ => ?_) (fun c => absurd (show (nI 0) = 0 by decide +kernel) c)
      refine lv_iconst (v := (nI 0)) hx hb dX7_seen_12 (by decide +kernel) ?_
      refine lv_istore_n (lv' := [(3, .int (nI 0)), (2, .int (nI 0)), (0, .ref o), (1, .int (nI 0))]) hx hb dX7_seen_13 rfl hl (by decide) rfl (fun ls hl => ?_)
      refine lv_iconst (v := (nI 0)) hx hb dX7_seen_14 (by decide +kernel) ?_
      refine lv_istore (lv' := [(4, .int (nI 0)), (3, .int (nI 0)), (2, .int (nI 0)), (0, .ref o), (1, .int (nI 0))]) hx hb dX7_seen_15 hl (by decide) rfl (fun ls hl => ?_)
      have L_6 : ∀ (fu : Nat) (k17 : Nat) (x17_3 : Int32), k17 ≤ 2 ^ nn → 2 ^ nn - k17 < fu → ∀ (H : Heap) (locs : List Loc) (ls : Array Slot), gW D T A s [(o, .inr (7, [.ref n0, .ref s0, .ref im, .ref iz, .ref rw, .ref t0, .ref u0, .ref h0, .ref y0, sv])), (rw, .inl (T 5, 4, .inr (.inr (.inr (.inr (va_up (va_up (va_up (va_up (fun _ => none) 0 (some ra0)) 1 (some rb0)) 2 (some rc0)) 3 (some rd0))))))), (ra0, .inr (1, [.int rah, .int (nI raz), .ref ra1, .int (nI ras)])), (ra1, .inl (T 1, 40, .inr (.inl raf))), (rb0, .inr (1, [.int rbh, .int (nI rbz), .ref rb1, .int (nI rbs)])), (rb1, .inl (T 1, 40, .inr (.inl rbf))), (rc0, .inr (1, [.int rch, .int (nI rcz), .ref rc1, .int (nI rcs)])), (rc1, .inl (T 1, 40, .inr (.inl rcf))), (rd0, .inr (1, [.int rdh, .int (nI rdz), .ref rd1, .int (nI rds)])), (rd1, .inl (T 1, 40, .inr (.inl rdf))), (n0, .inr (5, [.int (nI nn), .int nm, .int nl, .int no, .int nu, .ref n1, .ref n2, .ref n3, .ref n4, .ref n5, .ref n6, .ref n7, .ref n8, .ref n9, .ref n10])), (n1, .inl (T 0, 10, .inl nf1)), (n2, .inl (T 0, 10, .inl nf2)), (n3, .inl (T 0, 10, .inl nf3)), (n9, .inl (T 0, 10, .inl nf9))] H locs → lv_has ls 5 [(4, .int (nI k17)), (3, .int x17_3), (2, .int (nI 0)), (0, .ref o), (1, .int (nI 0))] → W p l e (rmD 4 0 0) s m args below meth c H locs 0 0 (MQ below (gQ D A (q_x_seen T o row n0 s0 im iz rw t0 u0 h0 y0 sv ra0 rb0 rc0 rd0 rah raz ra1 ras raf rbh rbz rb1 rbs rbf rch rcz rc1 rcs rcf rdh rdz rd1 rds rdf nn nm nl no nu n1 n2 n3 n4 n5 n6 n7 n8 n9 n10 nf1 nf2 nf3 nf9)) args s 0 0 A) (F0 m 17 ls []) := by
        intro fu_17
        induction fu_17 with
        | zero => intro k17 x17_3 hk17 hmu; exact absurd hmu (Nat.not_lt_zero _)
        | succ fu_17 ih_17 =>
          intro k17 x17_3 hk17 hmu_17 H locs ls V hl
          refine lv_iload hx hb dX7_seen_17 (lv_at hl 0 rfl) ?_
          refine lv_aload_n hx hb dX7_seen_19 rfl (lv_at hl 3 rfl) ?_
          refine g_get hC V (ci := 7) uwX7 0 rfl rfl 0 (by decide) w_249 rfl rfl dX7_seen_20 ?_
          refine g_callVU (nA := 0) hC V hl.1 (s_everyone l D T n0 nn nm nl no nu n1 n2 n3 n4 n5 n6 n7 n8 n9 n10 (by first | assumption | omega)) w_682 w_463 w_464 w_3 w_465 (by decide +kernel) rfl ⟨(Nat.le_of_ble_eq_true rfl), (Nat.le_of_ble_eq_true rfl)⟩ 10 (ci := 5) rfl rfl [10] rfl rfl (Nat.le_of_ble_eq_true rfl) dX7_seen_23 ⟨(Nat.le_of_ble_eq_true rfl), (Nat.le_of_ble_eq_true rfl)⟩ rfl (fun r w1 H locs hQ V => ?_)
          obtain ⟨rfl, rfl⟩ := hQ
          have V : gW D T A s [(o, .inr (7, [.ref n0, .ref s0, .ref im, .ref iz, .ref rw, .ref t0, .ref u0, .ref h0, .ref y0, sv])), (rw, .inl (T 5, 4, .inr (.inr (.inr (.inr (va_up (va_up (va_up (va_up (fun _ => none) 0 (some ra0)) 1 (some rb0)) 2 (some rc0)) 3 (some rd0))))))), (ra0, .inr (1, [.int rah, .int (nI raz), .ref ra1, .int (nI ras)])), (ra1, .inl (T 1, 40, .inr (.inl raf))), (rb0, .inr (1, [.int rbh, .int (nI rbz), .ref rb1, .int (nI rbs)])), (rb1, .inl (T 1, 40, .inr (.inl rbf))), (rc0, .inr (1, [.int rch, .int (nI rcz), .ref rc1, .int (nI rcs)])), (rc1, .inl (T 1, 40, .inr (.inl rcf))), (rd0, .inr (1, [.int rdh, .int (nI rdz), .ref rd1, .int (nI rds)])), (rd1, .inl (T 1, 40, .inr (.inl rdf))), (n0, .inr (5, [.int (nI nn), .int nm, .int nl, .int no, .int nu, .ref n1, .ref n2, .ref n3, .ref n4, .ref n5, .ref n6, .ref n7, .ref n8, .ref n9, .ref n10])), (n1, .inl (T 0, 10, .inl nf1)), (n2, .inl (T 0, 10, .inl nf2)), (n3, .inl (T 0, 10, .inl nf3)), (n9, .inl (T 0, 10, .inl nf9))] H locs := V _ [10] rfl rfl rfl (by decide +kernel) rfl
          show W p l e _ s m args below meth c H locs _ _ _ (F0 m 26 ls [.int (nI (2 ^ nn - 1)), .int (nI k17)])
          refine lv_icmp_gt (tgt := 56) hx hb dX7_seen_26 (by decide) (fun c_7 => ?_) (fun c_7 => ?_)
          · skip
            have c_7 := b_lt (by omega) (by omega) c_7
            refine lv_iload_n hx hb dX7_seen_56 rfl (lv_at hl 1 rfl) ?_
            exact g_iret (Qr := (q_x_seen T o row n0 s0 im iz rw t0 u0 h0 y0 sv ra0 rb0 rc0 rd0 rah raz ra1 ras raf rbh rbz rb1 rbs rbf rch rcz rc1 rcs rcf rdh rdz rd1 rds rdf nn nm nl no nu n1 n2 n3 n4 n5 n6 n7 n8 n9 n10 nf1 nf2 nf3 nf9)) hC V ⟨(Nat.le_of_ble_eq_true rfl), (Nat.le_of_ble_eq_true rfl)⟩ ⟨x17_3, rfl, rfl⟩ dX7_seen_57
          · skip
            have c_7 := b_nlt (by omega) (by omega) c_7
            refine lv_aload_n hx hb dX7_seen_29 rfl (lv_at hl 3 rfl) ?_
            refine g_get hC V (ci := 7) uwX7 0 rfl rfl 0 (by decide) w_249 rfl rfl dX7_seen_30 ?_
            refine lv_aload_n hx hb dX7_seen_33 rfl (lv_at hl 3 rfl) ?_
            refine g_get hC V (ci := 7) uwX7 0 rfl rfl 4 (by decide) w_253 rfl rfl dX7_seen_34 ?_
            refine lv_iload_n hx hb dX7_seen_37 rfl (lv_at hl 4 rfl) ?_
            refine g_aald hC V 1 5 rfl rfl (vp_in_nI (by decide) (by decide)) (v := .ref ra0) (by rw [nI_clamp (by decide)]; rfl) dX7_seen_38 ?_
            refine lv_iload hx hb dX7_seen_39 (lv_at hl 0 rfl) ?_
            refine g_callVU (nA := 2) hC V hl.1 (s_comesAs l D T n0 ra0 (nI k17) nn nm nl no nu n1 n2 n3 n4 n5 n6 n7 n8 n9 n10 nf1 nf2 nf3 nf9 rah raz ra1 ras raf (by first | assumption | omega)) w_787 w_788 w_789 w_3 w_790 (by decide +kernel) rfl ⟨(Nat.le_of_ble_eq_true rfl), (Nat.le_of_ble_eq_true rfl)⟩ 10 (ci := 5) rfl rfl [10, 11, 12, 13, 14, 2, 3] rfl rfl (Nat.le_of_ble_eq_true rfl) dX7_seen_41 ⟨(Nat.le_of_ble_eq_true rfl), (Nat.le_of_ble_eq_true rfl)⟩ rfl (fun r w1 H locs hQ V => ?_)
            rcases hQ with ⟨rfl, rfl⟩ | ⟨rfl, rfl⟩
            · have V : gW D T A s [(o, .inr (7, [.ref n0, .ref s0, .ref im, .ref iz, .ref rw, .ref t0, .ref u0, .ref h0, .ref y0, sv])), (rw, .inl (T 5, 4, .inr (.inr (.inr (.inr (va_up (va_up (va_up (va_up (fun _ => none) 0 (some ra0)) 1 (some rb0)) 2 (some rc0)) 3 (some rd0))))))), (ra0, .inr (1, [.int rah, .int (nI raz), .ref ra1, .int (nI ras)])), (ra1, .inl (T 1, 40, .inr (.inl raf))), (rb0, .inr (1, [.int rbh, .int (nI rbz), .ref rb1, .int (nI rbs)])), (rb1, .inl (T 1, 40, .inr (.inl rbf))), (rc0, .inr (1, [.int rch, .int (nI rcz), .ref rc1, .int (nI rcs)])), (rc1, .inl (T 1, 40, .inr (.inl rcf))), (rd0, .inr (1, [.int rdh, .int (nI rdz), .ref rd1, .int (nI rds)])), (rd1, .inl (T 1, 40, .inr (.inl rdf))), (n0, .inr (5, [.int (nI nn), .int nm, .int nl, .int no, .int nu, .ref n1, .ref n2, .ref n3, .ref n4, .ref n5, .ref n6, .ref n7, .ref n8, .ref n9, .ref n10])), (n1, .inl (T 0, 10, .inl nf1)), (n2, .inl (T 0, 10, .inl nf2)), (n3, .inl (T 0, 10, .inl nf3)), (n9, .inl (T 0, 10, .inl nf9))] H locs := V _ [2, 0, 6, 0, 0, 0, 0] rfl rfl rfl (by decide +kernel) rfl
              show W p l e _ s m args below meth c H locs _ _ _ (F0 m 44 ls [.int (nI 1)])
              refine lv_if_eq (tgt := 50) hx hb dX7_seen_44 (by decide) (fun c => absurd (show (nI 1) = 0 from c) (by decide +kernel)) (fun _ => ?_)
              refine lv_iinc (v := (x17_3 + 1)) (lv' := [(3, .int (x17_3 + 1)), (4, .int (nI k17)), (2, .int (nI 0)), (0, .ref o), (1, .int (nI 0))]) hx hb dX7_seen_47 hl (k := 1) rfl rfl (by decide) rfl (fun ls hl => ?_)
              refine lv_iinc (v := (nI (k17 + 1))) (lv' := [(4, .int (nI (k17 + 1))), (3, .int (x17_3 + 1)), (2, .int (nI 0)), (0, .ref o), (1, .int (nI 0))]) hx hb dX7_seen_50 hl (k := 1) rfl (nI_1 _) (by decide) rfl (fun ls hl => ?_)
              refine lv_goto (tgt := 17) hx hb dX7_seen_53 (by decide) ?_
              exact ih_17 (k17 + 1) (x17_3 + 1) (by omega) (by omega) _ _ _ V (lv_sub hl [0, 1, 2, 3, 4] rfl)
            · have V : gW D T A s [(o, .inr (7, [.ref n0, .ref s0, .ref im, .ref iz, .ref rw, .ref t0, .ref u0, .ref h0, .ref y0, sv])), (rw, .inl (T 5, 4, .inr (.inr (.inr (.inr (va_up (va_up (va_up (va_up (fun _ => none) 0 (some ra0)) 1 (some rb0)) 2 (some rc0)) 3 (some rd0))))))), (ra0, .inr (1, [.int rah, .int (nI raz), .ref ra1, .int (nI ras)])), (ra1, .inl (T 1, 40, .inr (.inl raf))), (rb0, .inr (1, [.int rbh, .int (nI rbz), .ref rb1, .int (nI rbs)])), (rb1, .inl (T 1, 40, .inr (.inl rbf))), (rc0, .inr (1, [.int rch, .int (nI rcz), .ref rc1, .int (nI rcs)])), (rc1, .inl (T 1, 40, .inr (.inl rcf))), (rd0, .inr (1, [.int rdh, .int (nI rdz), .ref rd1, .int (nI rds)])), (rd1, .inl (T 1, 40, .inr (.inl rdf))), (n0, .inr (5, [.int (nI nn), .int nm, .int nl, .int no, .int nu, .ref n1, .ref n2, .ref n3, .ref n4, .ref n5, .ref n6, .ref n7, .ref n8, .ref n9, .ref n10])), (n1, .inl (T 0, 10, .inl nf1)), (n2, .inl (T 0, 10, .inl nf2)), (n3, .inl (T 0, 10, .inl nf3)), (n9, .inl (T 0, 10, .inl nf9))] H locs := V _ [2, 0, 6, 0, 0, 0, 0] rfl rfl rfl (by decide +kernel) rfl
              show W p l e _ s m args below meth c H locs _ _ _ (F0 m 44 ls [.int (nI 0)])
              refine lv_if_eq (tgt := 50) hx hb dX7_seen_44 (by decide) (fun _ => ?_) (fun c => absurd (show (nI 0) = 0 by decide +kernel) c)
              refine lv_iinc (v := (nI (k17 + 1))) (lv' := [(4, .int (nI (k17 + 1))), (3, .int x17_3), (2, .int (nI 0)), (0, .ref o), (1, .int (nI 0))]) hx hb dX7_seen_50 hl (k := 0) rfl (nI_1 _) (by decide) rfl (fun ls hl => ?_)
              refine lv_goto (tgt := 17) hx hb dX7_seen_53 (by decide) ?_
              exact ih_17 (k17 + 1) x17_3 (by omega) (by omega) _ _ _ V (lv_sub hl [0, 1, 2, 3, 4] rfl)
      exact L_6 _ 0 (nI 0) (by omega) (Nat.lt_succ_self _) _ _ _ V (lv_sub hl [0, 1, 2, 3, 4] rfl)
    · skip
      refine lv_istore_n (lv' := [(2, .int (nI 0)), (0, .ref o), (1, .int (nI 1))]) hx hb dX7_seen_5 rfl hl (by decide) rfl (fun ls hl => ?_)
      refine lv_iload_n hx hb dX7_seen_6 rfl (lv_at hl 0 rfl) ?_
      refine lv_if_eq (tgt := 12) hx hb dX7_seen_7 (by decide) (fun _ => ?_) (fun c => absurd (show (nI 0) = 0 by decide +kernel) c)
      refine lv_iconst (v := (nI 0)) hx hb dX7_seen_12 (by decide +kernel) ?_
      refine lv_istore_n (lv' := [(3, .int (nI 0)), (2, .int (nI 0)), (0, .ref o), (1, .int (nI 1))]) hx hb dX7_seen_13 rfl hl (by decide) rfl (fun ls hl => ?_)
      refine lv_iconst (v := (nI 0)) hx hb dX7_seen_14 (by decide +kernel) ?_
      refine lv_istore (lv' := [(4, .int (nI 0)), (3, .int (nI 0)), (2, .int (nI 0)), (0, .ref o), (1, .int (nI 1))]) hx hb dX7_seen_15 hl (by decide) rfl (fun ls hl => ?_)
      have L_8 : ∀ (fu : Nat) (k17 : Nat) (x17_3 : Int32), k17 ≤ 2 ^ nn → 2 ^ nn - k17 < fu → ∀ (H : Heap) (locs : List Loc) (ls : Array Slot), gW D T A s [(o, .inr (7, [.ref n0, .ref s0, .ref im, .ref iz, .ref rw, .ref t0, .ref u0, .ref h0, .ref y0, sv])), (rw, .inl (T 5, 4, .inr (.inr (.inr (.inr (va_up (va_up (va_up (va_up (fun _ => none) 0 (some ra0)) 1 (some rb0)) 2 (some rc0)) 3 (some rd0))))))), (ra0, .inr (1, [.int rah, .int (nI raz), .ref ra1, .int (nI ras)])), (ra1, .inl (T 1, 40, .inr (.inl raf))), (rb0, .inr (1, [.int rbh, .int (nI rbz), .ref rb1, .int (nI rbs)])), (rb1, .inl (T 1, 40, .inr (.inl rbf))), (rc0, .inr (1, [.int rch, .int (nI rcz), .ref rc1, .int (nI rcs)])), (rc1, .inl (T 1, 40, .inr (.inl rcf))), (rd0, .inr (1, [.int rdh, .int (nI rdz), .ref rd1, .int (nI rds)])), (rd1, .inl (T 1, 40, .inr (.inl rdf))), (n0, .inr (5, [.int (nI nn), .int nm, .int nl, .int no, .int nu, .ref n1, .ref n2, .ref n3, .ref n4, .ref n5, .ref n6, .ref n7, .ref n8, .ref n9, .ref n10])), (n1, .inl (T 0, 10, .inl nf1)), (n2, .inl (T 0, 10, .inl nf2)), (n3, .inl (T 0, 10, .inl nf3)), (n9, .inl (T 0, 10, .inl nf9))] H locs → lv_has ls 5 [(4, .int (nI k17)), (3, .int x17_3), (2, .int (nI 0)), (0, .ref o), (1, .int (nI 1))] → W p l e (rmD 4 0 0) s m args below meth c H locs 0 0 (MQ below (gQ D A (q_x_seen T o row n0 s0 im iz rw t0 u0 h0 y0 sv ra0 rb0 rc0 rd0 rah raz ra1 ras raf rbh rbz rb1 rbs rbf rch rcz rc1 rcs rcf rdh rdz rd1 rds rdf nn nm nl no nu n1 n2 n3 n4 n5 n6 n7 n8 n9 n10 nf1 nf2 nf3 nf9)) args s 0 0 A) (F0 m 17 ls []) := by
        intro fu_17
        induction fu_17 with
        | zero => intro k17 x17_3 hk17 hmu; exact absurd hmu (Nat.not_lt_zero _)
        | succ fu_17 ih_17 =>
          intro k17 x17_3 hk17 hmu_17 H locs ls V hl
          refine lv_iload hx hb dX7_seen_17 (lv_at hl 0 rfl) ?_
          refine lv_aload_n hx hb dX7_seen_19 rfl (lv_at hl 3 rfl) ?_
          refine g_get hC V (ci := 7) uwX7 0 rfl rfl 0 (by decide) w_249 rfl rfl dX7_seen_20 ?_
          refine g_callVU (nA := 0) hC V hl.1 (s_everyone l D T n0 nn nm nl no nu n1 n2 n3 n4 n5 n6 n7 n8 n9 n10 (by first | assumption | omega)) w_682 w_463 w_464 w_3 w_465 (by decide +kernel) rfl ⟨(Nat.le_of_ble_eq_true rfl), (Nat.le_of_ble_eq_true rfl)⟩ 10 (ci := 5) rfl rfl [10] rfl rfl (Nat.le_of_ble_eq_true rfl) dX7_seen_23 ⟨(Nat.le_of_ble_eq_true rfl), (Nat.le_of_ble_eq_true rfl)⟩ rfl (fun r w1 H locs hQ V => ?_)
          obtain ⟨rfl, rfl⟩ := hQ
          have V : gW D T A s [(o, .inr (7, [.ref n0, .ref s0, .ref im, .ref iz, .ref rw, .ref t0, .ref u0, .ref h0, .ref y0, sv])), (rw, .inl (T 5, 4, .inr (.inr (.inr (.inr (va_up (va_up (va_up (va_up (fun _ => none) 0 (some ra0)) 1 (some rb0)) 2 (some rc0)) 3 (some rd0))))))), (ra0, .inr (1, [.int rah, .int (nI raz), .ref ra1, .int (nI ras)])), (ra1, .inl (T 1, 40, .inr (.inl raf))), (rb0, .inr (1, [.int rbh, .int (nI rbz), .ref rb1, .int (nI rbs)])), (rb1, .inl (T 1, 40, .inr (.inl rbf))), (rc0, .inr (1, [.int rch, .int (nI rcz), .ref rc1, .int (nI rcs)])), (rc1, .inl (T 1, 40, .inr (.inl rcf))), (rd0, .inr (1, [.int rdh, .int (nI rdz), .ref rd1, .int (nI rds)])), (rd1, .inl (T 1, 40, .inr (.inl rdf))), (n0, .inr (5, [.int (nI nn), .int nm, .int nl, .int no, .int nu, .ref n1, .ref n2, .ref n3, .ref n4, .ref n5, .ref n6, .ref n7, .ref n8, .ref n9, .ref n10])), (n1, .inl (T 0, 10, .inl nf1)), (n2, .inl (T 0, 10, .inl nf2)), (n3, .inl (T 0, 10, .inl nf3)), (n9, .inl (T 0, 10, .inl nf9))] H locs := V _ [10] rfl rfl rfl (by decide +kernel) rfl
          show W p l e _ s m args below meth c H locs _ _ _ (F0 m 26 ls [.int (nI (2 ^ nn - 1)), .int (nI k17)])
          refine lv_icmp_gt (tgt := 56) hx hb dX7_seen_26 (by decide) (fun c_9 => ?_) (fun c_9 => ?_)
          · skip
            have c_9 := b_lt (by omega) (by omega) c_9
            refine lv_iload_n hx hb dX7_seen_56 rfl (lv_at hl 1 rfl) ?_
            exact g_iret (Qr := (q_x_seen T o row n0 s0 im iz rw t0 u0 h0 y0 sv ra0 rb0 rc0 rd0 rah raz ra1 ras raf rbh rbz rb1 rbs rbf rch rcz rc1 rcs rcf rdh rdz rd1 rds rdf nn nm nl no nu n1 n2 n3 n4 n5 n6 n7 n8 n9 n10 nf1 nf2 nf3 nf9)) hC V ⟨(Nat.le_of_ble_eq_true rfl), (Nat.le_of_ble_eq_true rfl)⟩ ⟨x17_3, rfl, rfl⟩ dX7_seen_57
          · skip
            have c_9 := b_nlt (by omega) (by omega) c_9
            refine lv_aload_n hx hb dX7_seen_29 rfl (lv_at hl 3 rfl) ?_
            refine g_get hC V (ci := 7) uwX7 0 rfl rfl 0 (by decide) w_249 rfl rfl dX7_seen_30 ?_
            refine lv_aload_n hx hb dX7_seen_33 rfl (lv_at hl 3 rfl) ?_
            refine g_get hC V (ci := 7) uwX7 0 rfl rfl 4 (by decide) w_253 rfl rfl dX7_seen_34 ?_
            refine lv_iload_n hx hb dX7_seen_37 rfl (lv_at hl 4 rfl) ?_
            refine g_aald hC V 1 5 rfl rfl (vp_in_nI (by decide) (by decide)) (v := .ref rb0) (by rw [nI_clamp (by decide)]; rfl) dX7_seen_38 ?_
            refine lv_iload hx hb dX7_seen_39 (lv_at hl 0 rfl) ?_
            refine g_callVU (nA := 2) hC V hl.1 (s_comesAs l D T n0 rb0 (nI k17) nn nm nl no nu n1 n2 n3 n4 n5 n6 n7 n8 n9 n10 nf1 nf2 nf3 nf9 rbh rbz rb1 rbs rbf (by first | assumption | omega)) w_787 w_788 w_789 w_3 w_790 (by decide +kernel) rfl ⟨(Nat.le_of_ble_eq_true rfl), (Nat.le_of_ble_eq_true rfl)⟩ 10 (ci := 5) rfl rfl [10, 11, 12, 13, 14, 4, 5] rfl rfl (Nat.le_of_ble_eq_true rfl) dX7_seen_41 ⟨(Nat.le_of_ble_eq_true rfl), (Nat.le_of_ble_eq_true rfl)⟩ rfl (fun r w1 H locs hQ V => ?_)
            rcases hQ with ⟨rfl, rfl⟩ | ⟨rfl, rfl⟩
            · have V : gW D T A s [(o, .inr (7, [.ref n0, .ref s0, .ref im, .ref iz, .ref rw, .ref t0, .ref u0, .ref h0, .ref y0, sv])), (rw, .inl (T 5, 4, .inr (.inr (.inr (.inr (va_up (va_up (va_up (va_up (fun _ => none) 0 (some ra0)) 1 (some rb0)) 2 (some rc0)) 3 (some rd0))))))), (ra0, .inr (1, [.int rah, .int (nI raz), .ref ra1, .int (nI ras)])), (ra1, .inl (T 1, 40, .inr (.inl raf))), (rb0, .inr (1, [.int rbh, .int (nI rbz), .ref rb1, .int (nI rbs)])), (rb1, .inl (T 1, 40, .inr (.inl rbf))), (rc0, .inr (1, [.int rch, .int (nI rcz), .ref rc1, .int (nI rcs)])), (rc1, .inl (T 1, 40, .inr (.inl rcf))), (rd0, .inr (1, [.int rdh, .int (nI rdz), .ref rd1, .int (nI rds)])), (rd1, .inl (T 1, 40, .inr (.inl rdf))), (n0, .inr (5, [.int (nI nn), .int nm, .int nl, .int no, .int nu, .ref n1, .ref n2, .ref n3, .ref n4, .ref n5, .ref n6, .ref n7, .ref n8, .ref n9, .ref n10])), (n1, .inl (T 0, 10, .inl nf1)), (n2, .inl (T 0, 10, .inl nf2)), (n3, .inl (T 0, 10, .inl nf3)), (n9, .inl (T 0, 10, .inl nf9))] H locs := V _ [4, 0, 4, 0, 0, 0, 0] rfl rfl rfl (by decide +kernel) rfl
              show W p l e _ s m args below meth c H locs _ _ _ (F0 m 44 ls [.int (nI 1)])
              refine lv_if_eq (tgt := 50) hx hb dX7_seen_44 (by decide) (fun c => absurd (show (nI 1) = 0 from c) (by decide +kernel)) (fun _ => ?_)
              refine lv_iinc (v := (x17_3 + 1)) (lv' := [(3, .int (x17_3 + 1)), (4, .int (nI k17)), (2, .int (nI 0)), (0, .ref o), (1, .int (nI 1))]) hx hb dX7_seen_47 hl (k := 1) rfl rfl (by decide) rfl (fun ls hl => ?_)
              refine lv_iinc (v := (nI (k17 + 1))) (lv' := [(4, .int (nI (k17 + 1))), (3, .int (x17_3 + 1)), (2, .int (nI 0)), (0, .ref o), (1, .int (nI 1))]) hx hb dX7_seen_50 hl (k := 1) rfl (nI_1 _) (by decide) rfl (fun ls hl => ?_)
              refine lv_goto (tgt := 17) hx hb dX7_seen_53 (by decide) ?_
              exact ih_17 (k17 + 1) (x17_3 + 1) (by omega) (by omega) _ _ _ V (lv_sub hl [0, 1, 2, 3, 4] rfl)
            · have V : gW D T A s [(o, .inr (7, [.ref n0, .ref s0, .ref im, .ref iz, .ref rw, .ref t0, .ref u0, .ref h0, .ref y0, sv])), (rw, .inl (T 5, 4, .inr (.inr (.inr (.inr (va_up (va_up (va_up (va_up (fun _ => none) 0 (some ra0)) 1 (some rb0)) 2 (some rc0)) 3 (some rd0))))))), (ra0, .inr (1, [.int rah, .int (nI raz), .ref ra1, .int (nI ras)])), (ra1, .inl (T 1, 40, .inr (.inl raf))), (rb0, .inr (1, [.int rbh, .int (nI rbz), .ref rb1, .int (nI rbs)])), (rb1, .inl (T 1, 40, .inr (.inl rbf))), (rc0, .inr (1, [.int rch, .int (nI rcz), .ref rc1, .int (nI rcs)])), (rc1, .inl (T 1, 40, .inr (.inl rcf))), (rd0, .inr (1, [.int rdh, .int (nI rdz), .ref rd1, .int (nI rds)])), (rd1, .inl (T 1, 40, .inr (.inl rdf))), (n0, .inr (5, [.int (nI nn), .int nm, .int nl, .int no, .int nu, .ref n1, .ref n2, .ref n3, .ref n4, .ref n5, .ref n6, .ref n7, .ref n8, .ref n9, .ref n10])), (n1, .inl (T 0, 10, .inl nf1)), (n2, .inl (T 0, 10, .inl nf2)), (n3, .inl (T 0, 10, .inl nf3)), (n9, .inl (T 0, 10, .inl nf9))] H locs := V _ [4, 0, 4, 0, 0, 0, 0] rfl rfl rfl (by decide +kernel) rfl
              show W p l e _ s m args below meth c H locs _ _ _ (F0 m 44 ls [.int (nI 0)])
              refine lv_if_eq (tgt := 50) hx hb dX7_seen_44 (by decide) (fun _ => ?_) (fun c => absurd (show (nI 0) = 0 by decide +kernel) c)
              refine lv_iinc (v := (nI (k17 + 1))) (lv' := [(4, .int (nI (k17 + 1))), (3, .int x17_3), (2, .int (nI 0)), (0, .ref o), (1, .int (nI 1))]) hx hb dX7_seen_50 hl (k := 0) rfl (nI_1 _) (by decide) rfl (fun ls hl => ?_)
              refine lv_goto (tgt := 17) hx hb dX7_seen_53 (by decide) ?_
              exact ih_17 (k17 + 1) x17_3 (by omega) (by omega) _ _ _ V (lv_sub hl [0, 1, 2, 3, 4] rfl)
      exact L_8 _ 0 (nI 0) (by omega) (Nat.lt_succ_self _) _ _ _ V (lv_sub hl [0, 1, 2, 3, 4] rfl)
    · skip
      refine lv_istore_n (lv' := [(2, .int (nI 0)), (0, .ref o), (1, .int (nI 2))]) hx hb dX7_seen_5 rfl hl (by decide) rfl (fun ls hl => ?_)
      refine lv_iload_n hx hb dX7_seen_6 rfl (lv_at hl 0 rfl) ?_
      refine lv_if_eq (tgt := 12) hx hb dX7_seen_7 (by decide) (fun _ => ?_) (fun c => absurd (show (nI 0) = 0 by decide +kernel) c)
      refine lv_iconst (v := (nI 0)) hx hb dX7_seen_12 (by decide +kernel) ?_
      refine lv_istore_n (lv' := [(3, .int (nI 0)), (2, .int (nI 0)), (0, .ref o), (1, .int (nI 2))]) hx hb dX7_seen_13 rfl hl (by decide) rfl (fun ls hl => ?_)
      refine lv_iconst (v := (nI 0)) hx hb dX7_seen_14 (by decide +kernel) ?_
      refine lv_istore (lv' := [(4, .int (nI 0)), (3, .int (nI 0)), (2, .int (nI 0)), (0, .ref o), (1, .int (nI 2))]) hx hb dX7_seen_15 hl (by decide) rfl (fun ls hl => ?_)
      have L_10 : ∀ (fu : Nat) (k17 : Nat) (x17_3 : Int32), k17 ≤ 2 ^ nn → 2 ^ nn - k17 < fu → ∀ (H : Heap) (locs : List Loc) (ls : Array Slot), gW D T A s [(o, .inr (7, [.ref n0, .ref s0, .ref im, .ref iz, .ref rw, .ref t0, .ref u0, .ref h0, .ref y0, sv])), (rw, .inl (T 5, 4, .inr (.inr (.inr (.inr (va_up (va_up (va_up (va_up (fun _ => none) 0 (some ra0)) 1 (some rb0)) 2 (some rc0)) 3 (some rd0))))))), (ra0, .inr (1, [.int rah, .int (nI raz), .ref ra1, .int (nI ras)])), (ra1, .inl (T 1, 40, .inr (.inl raf))), (rb0, .inr (1, [.int rbh, .int (nI rbz), .ref rb1, .int (nI rbs)])), (rb1, .inl (T 1, 40, .inr (.inl rbf))), (rc0, .inr (1, [.int rch, .int (nI rcz), .ref rc1, .int (nI rcs)])), (rc1, .inl (T 1, 40, .inr (.inl rcf))), (rd0, .inr (1, [.int rdh, .int (nI rdz), .ref rd1, .int (nI rds)])), (rd1, .inl (T 1, 40, .inr (.inl rdf))), (n0, .inr (5, [.int (nI nn), .int nm, .int nl, .int no, .int nu, .ref n1, .ref n2, .ref n3, .ref n4, .ref n5, .ref n6, .ref n7, .ref n8, .ref n9, .ref n10])), (n1, .inl (T 0, 10, .inl nf1)), (n2, .inl (T 0, 10, .inl nf2)), (n3, .inl (T 0, 10, .inl nf3)), (n9, .inl (T 0, 10, .inl nf9))] H locs → lv_has ls 5 [(4, .int (nI k17)), (3, .int x17_3), (2, .int (nI 0)), (0, .ref o), (1, .int (nI 2))] → W p l e (rmD 4 0 0) s m args below meth c H locs 0 0 (MQ below (gQ D A (q_x_seen T o row n0 s0 im iz rw t0 u0 h0 y0 sv ra0 rb0 rc0 rd0 rah raz ra1 ras raf rbh rbz rb1 rbs rbf rch rcz rc1 rcs rcf rdh rdz rd1 rds rdf nn nm nl no nu n1 n2 n3 n4 n5 n6 n7 n8 n9 n10 nf1 nf2 nf3 nf9)) args s 0 0 A) (F0 m 17 ls []) := by
        intro fu_17
        induction fu_17 with
        | zero => intro k17 x17_3 hk17 hmu; exact absurd hmu (Nat.not_lt_zero _)
        | succ fu_17 ih_17 =>
          intro k17 x17_3 hk17 hmu_17 H locs ls V hl
          refine lv_iload hx hb dX7_seen_17 (lv_at hl 0 rfl) ?_
          refine lv_aload_n hx hb dX7_seen_19 rfl (lv_at hl 3 rfl) ?_
          refine g_get hC V (ci := 7) uwX7 0 rfl rfl 0 (by decide) w_249 rfl rfl dX7_seen_20 ?_
          refine g_callVU (nA := 0) hC V hl.1 (s_everyone l D T n0 nn nm nl no nu n1 n2 n3 n4 n5 n6 n7 n8 n9 n10 (by first | assumption | omega)) w_682 w_463 w_464 w_3 w_465 (by decide +kernel) rfl ⟨(Nat.le_of_ble_eq_true rfl), (Nat.le_of_ble_eq_true rfl)⟩ 10 (ci := 5) rfl rfl [10] rfl rfl (Nat.le_of_ble_eq_true rfl) dX7_seen_23 ⟨(Nat.le_of_ble_eq_true rfl), (Nat.le_of_ble_eq_true rfl)⟩ rfl (fun r w1 H locs hQ V => ?_)
          obtain ⟨rfl, rfl⟩ := hQ
          have V : gW D T A s [(o, .inr (7, [.ref n0, .ref s0, .ref im, .ref iz, .ref rw, .ref t0, .ref u0, .ref h0, .ref y0, sv])), (rw, .inl (T 5, 4, .inr (.inr (.inr (.inr (va_up (va_up (va_up (va_up (fun _ => none) 0 (some ra0)) 1 (some rb0)) 2 (some rc0)) 3 (some rd0))))))), (ra0, .inr (1, [.int rah, .int (nI raz), .ref ra1, .int (nI ras)])), (ra1, .inl (T 1, 40, .inr (.inl raf))), (rb0, .inr (1, [.int rbh, .int (nI rbz), .ref rb1, .int (nI rbs)])), (rb1, .inl (T 1, 40, .inr (.inl rbf))), (rc0, .inr (1, [.int rch, .int (nI rcz), .ref rc1, .int (nI rcs)])), (rc1, .inl (T 1, 40, .inr (.inl rcf))), (rd0, .inr (1, [.int rdh, .int (nI rdz), .ref rd1, .int (nI rds)])), (rd1, .inl (T 1, 40, .inr (.inl rdf))), (n0, .inr (5, [.int (nI nn), .int nm, .int nl, .int no, .int nu, .ref n1, .ref n2, .ref n3, .ref n4, .ref n5, .ref n6, .ref n7, .ref n8, .ref n9, .ref n10])), (n1, .inl (T 0, 10, .inl nf1)), (n2, .inl (T 0, 10, .inl nf2)), (n3, .inl (T 0, 10, .inl nf3)), (n9, .inl (T 0, 10, .inl nf9))] H locs := V _ [10] rfl rfl rfl (by decide +kernel) rfl
          show W p l e _ s m args below meth c H locs _ _ _ (F0 m 26 ls [.int (nI (2 ^ nn - 1)), .int (nI k17)])
          refine lv_icmp_gt (tgt := 56) hx hb dX7_seen_26 (by decide) (fun c_11 => ?_) (fun c_11 => ?_)
          · skip
            have c_11 := b_lt (by omega) (by omega) c_11
            refine lv_iload_n hx hb dX7_seen_56 rfl (lv_at hl 1 rfl) ?_
            exact g_iret (Qr := (q_x_seen T o row n0 s0 im iz rw t0 u0 h0 y0 sv ra0 rb0 rc0 rd0 rah raz ra1 ras raf rbh rbz rb1 rbs rbf rch rcz rc1 rcs rcf rdh rdz rd1 rds rdf nn nm nl no nu n1 n2 n3 n4 n5 n6 n7 n8 n9 n10 nf1 nf2 nf3 nf9)) hC V ⟨(Nat.le_of_ble_eq_true rfl), (Nat.le_of_ble_eq_true rfl)⟩ ⟨x17_3, rfl, rfl⟩ dX7_seen_57
          · skip
            have c_11 := b_nlt (by omega) (by omega) c_11
            refine lv_aload_n hx hb dX7_seen_29 rfl (lv_at hl 3 rfl) ?_
            refine g_get hC V (ci := 7) uwX7 0 rfl rfl 0 (by decide) w_249 rfl rfl dX7_seen_30 ?_
            refine lv_aload_n hx hb dX7_seen_33 rfl (lv_at hl 3 rfl) ?_
            refine g_get hC V (ci := 7) uwX7 0 rfl rfl 4 (by decide) w_253 rfl rfl dX7_seen_34 ?_
            refine lv_iload_n hx hb dX7_seen_37 rfl (lv_at hl 4 rfl) ?_
            refine g_aald hC V 1 5 rfl rfl (vp_in_nI (by decide) (by decide)) (v := .ref rc0) (by rw [nI_clamp (by decide)]; rfl) dX7_seen_38 ?_
            refine lv_iload hx hb dX7_seen_39 (lv_at hl 0 rfl) ?_
            refine g_callVU (nA := 2) hC V hl.1 (s_comesAs l D T n0 rc0 (nI k17) nn nm nl no nu n1 n2 n3 n4 n5 n6 n7 n8 n9 n10 nf1 nf2 nf3 nf9 rch rcz rc1 rcs rcf (by first | assumption | omega)) w_787 w_788 w_789 w_3 w_790 (by decide +kernel) rfl ⟨(Nat.le_of_ble_eq_true rfl), (Nat.le_of_ble_eq_true rfl)⟩ 10 (ci := 5) rfl rfl [10, 11, 12, 13, 14, 6, 7] rfl rfl (Nat.le_of_ble_eq_true rfl) dX7_seen_41 ⟨(Nat.le_of_ble_eq_true rfl), (Nat.le_of_ble_eq_true rfl)⟩ rfl (fun r w1 H locs hQ V => ?_)
            rcases hQ with ⟨rfl, rfl⟩ | ⟨rfl, rfl⟩
            · have V : gW D T A s [(o, .inr (7, [.ref n0, .ref s0, .ref im, .ref iz, .ref rw, .ref t0, .ref u0, .ref h0, .ref y0, sv])), (rw, .inl (T 5, 4, .inr (.inr (.inr (.inr (va_up (va_up (va_up (va_up (fun _ => none) 0 (some ra0)) 1 (some rb0)) 2 (some rc0)) 3 (some rd0))))))), (ra0, .inr (1, [.int rah, .int (nI raz), .ref ra1, .int (nI ras)])), (ra1, .inl (T 1, 40, .inr (.inl raf))), (rb0, .inr (1, [.int rbh, .int (nI rbz), .ref rb1, .int (nI rbs)])), (rb1, .inl (T 1, 40, .inr (.inl rbf))), (rc0, .inr (1, [.int rch, .int (nI rcz), .ref rc1, .int (nI rcs)])), (rc1, .inl (T 1, 40, .inr (.inl rcf))), (rd0, .inr (1, [.int rdh, .int (nI rdz), .ref rd1, .int (nI rds)])), (rd1, .inl (T 1, 40, .inr (.inl rdf))), (n0, .inr (5, [.int (nI nn), .int nm, .int nl, .int no, .int nu, .ref n1, .ref n2, .ref n3, .ref n4, .ref n5, .ref n6, .ref n7, .ref n8, .ref n9, .ref n10])), (n1, .inl (T 0, 10, .inl nf1)), (n2, .inl (T 0, 10, .inl nf2)), (n3, .inl (T 0, 10, .inl nf3)), (n9, .inl (T 0, 10, .inl nf9))] H locs := V _ [6, 0, 2, 0, 0, 0, 0] rfl rfl rfl (by decide +kernel) rfl
              show W p l e _ s m args below meth c H locs _ _ _ (F0 m 44 ls [.int (nI 1)])
              refine lv_if_eq (tgt := 50) hx hb dX7_seen_44 (by decide) (fun c => absurd (show (nI 1) = 0 from c) (by decide +kernel)) (fun _ => ?_)
              refine lv_iinc (v := (x17_3 + 1)) (lv' := [(3, .int (x17_3 + 1)), (4, .int (nI k17)), (2, .int (nI 0)), (0, .ref o), (1, .int (nI 2))]) hx hb dX7_seen_47 hl (k := 1) rfl rfl (by decide) rfl (fun ls hl => ?_)
              refine lv_iinc (v := (nI (k17 + 1))) (lv' := [(4, .int (nI (k17 + 1))), (3, .int (x17_3 + 1)), (2, .int (nI 0)), (0, .ref o), (1, .int (nI 2))]) hx hb dX7_seen_50 hl (k := 1) rfl (nI_1 _) (by decide) rfl (fun ls hl => ?_)
              refine lv_goto (tgt := 17) hx hb dX7_seen_53 (by decide) ?_
              exact ih_17 (k17 + 1) (x17_3 + 1) (by omega) (by omega) _ _ _ V (lv_sub hl [0, 1, 2, 3, 4] rfl)
            · have V : gW D T A s [(o, .inr (7, [.ref n0, .ref s0, .ref im, .ref iz, .ref rw, .ref t0, .ref u0, .ref h0, .ref y0, sv])), (rw, .inl (T 5, 4, .inr (.inr (.inr (.inr (va_up (va_up (va_up (va_up (fun _ => none) 0 (some ra0)) 1 (some rb0)) 2 (some rc0)) 3 (some rd0))))))), (ra0, .inr (1, [.int rah, .int (nI raz), .ref ra1, .int (nI ras)])), (ra1, .inl (T 1, 40, .inr (.inl raf))), (rb0, .inr (1, [.int rbh, .int (nI rbz), .ref rb1, .int (nI rbs)])), (rb1, .inl (T 1, 40, .inr (.inl rbf))), (rc0, .inr (1, [.int rch, .int (nI rcz), .ref rc1, .int (nI rcs)])), (rc1, .inl (T 1, 40, .inr (.inl rcf))), (rd0, .inr (1, [.int rdh, .int (nI rdz), .ref rd1, .int (nI rds)])), (rd1, .inl (T 1, 40, .inr (.inl rdf))), (n0, .inr (5, [.int (nI nn), .int nm, .int nl, .int no, .int nu, .ref n1, .ref n2, .ref n3, .ref n4, .ref n5, .ref n6, .ref n7, .ref n8, .ref n9, .ref n10])), (n1, .inl (T 0, 10, .inl nf1)), (n2, .inl (T 0, 10, .inl nf2)), (n3, .inl (T 0, 10, .inl nf3)), (n9, .inl (T 0, 10, .inl nf9))] H locs := V _ [6, 0, 2, 0, 0, 0, 0] rfl rfl rfl (by decide +kernel) rfl
              show W p l e _ s m args below meth c H locs _ _ _ (F0 m 44 ls [.int (nI 0)])
              refine lv_if_eq (tgt := 50) hx hb dX7_seen_44 (by decide) (fun _ => ?_) (fun c => absurd (show (nI 0) = 0 by decide +kernel) c)
              refine lv_iinc (v := (nI (k17 + 1))) (lv' := [(4, .int (nI (k17 + 1))), (3, .int x17_3), (2, .int (nI 0)), (0, .ref o), (1, .int (nI 2))]) hx hb dX7_seen_50 hl (k := 0) rfl (nI_1 _) (by decide) rfl (fun ls hl => ?_)
              refine lv_goto (tgt := 17) hx hb dX7_seen_53 (by decide) ?_
              exact ih_17 (k17 + 1) x17_3 (by omega) (by omega) _ _ _ V (lv_sub hl [0, 1, 2, 3, 4] rfl)
      exact L_10 _ 0 (nI 0) (by omega) (Nat.lt_succ_self _) _ _ _ V (lv_sub hl [0, 1, 2, 3, 4] rfl)
    · skip
      refine lv_istore_n (lv' := [(2, .int (nI 0)), (0, .ref o), (1, .int (nI 3))]) hx hb dX7_seen_5 rfl hl (by decide) rfl (fun ls hl => ?_)
      refine lv_iload_n hx hb dX7_seen_6 rfl (lv_at hl 0 rfl) ?_
      refine lv_if_eq (tgt := 12) hx hb dX7_seen_7 (by decide) (fun _ => ?_) (fun c => absurd (show (nI 0) = 0 by decide +kernel) c)
      refine lv_iconst (v := (nI 0)) hx hb dX7_seen_12 (by decide +kernel) ?_
      refine lv_istore_n (lv' := [(3, .int (nI 0)), (2, .int (nI 0)), (0, .ref o), (1, .int (nI 3))]) hx hb dX7_seen_13 rfl hl (by decide) rfl (fun ls hl => ?_)
      refine lv_iconst (v := (nI 0)) hx hb dX7_seen_14 (by decide +kernel) ?_
      refine lv_istore (lv' := [(4, .int (nI 0)), (3, .int (nI 0)), (2, .int (nI 0)), (0, .ref o), (1, .int (nI 3))]) hx hb dX7_seen_15 hl (by decide) rfl (fun ls hl => ?_)
      have L_12 : ∀ (fu : Nat) (k17 : Nat) (x17_3 : Int32), k17 ≤ 2 ^ nn → 2 ^ nn - k17 < fu → ∀ (H : Heap) (locs : List Loc) (ls : Array Slot), gW D T A s [(o, .inr (7, [.ref n0, .ref s0, .ref im, .ref iz, .ref rw, .ref t0, .ref u0, .ref h0, .ref y0, sv])), (rw, .inl (T 5, 4, .inr (.inr (.inr (.inr (va_up (va_up (va_up (va_up (fun _ => none) 0 (some ra0)) 1 (some rb0)) 2 (some rc0)) 3 (some rd0))))))), (ra0, .inr (1, [.int rah, .int (nI raz), .ref ra1, .int (nI ras)])), (ra1, .inl (T 1, 40, .inr (.inl raf))), (rb0, .inr (1, [.int rbh, .int (nI rbz), .ref rb1, .int (nI rbs)])), (rb1, .inl (T 1, 40, .inr (.inl rbf))), (rc0, .inr (1, [.int rch, .int (nI rcz), .ref rc1, .int (nI rcs)])), (rc1, .inl (T 1, 40, .inr (.inl rcf))), (rd0, .inr (1, [.int rdh, .int (nI rdz), .ref rd1, .int (nI rds)])), (rd1, .inl (T 1, 40, .inr (.inl rdf))), (n0, .inr (5, [.int (nI nn), .int nm, .int nl, .int no, .int nu, .ref n1, .ref n2, .ref n3, .ref n4, .ref n5, .ref n6, .ref n7, .ref n8, .ref n9, .ref n10])), (n1, .inl (T 0, 10, .inl nf1)), (n2, .inl (T 0, 10, .inl nf2)), (n3, .inl (T 0, 10, .inl nf3)), (n9, .inl (T 0, 10, .inl nf9))] H locs → lv_has ls 5 [(4, .int (nI k17)), (3, .int x17_3), (2, .int (nI 0)), (0, .ref o), (1, .int (nI 3))] → W p l e (rmD 4 0 0) s m args below meth c H locs 0 0 (MQ below (gQ D A (q_x_seen T o row n0 s0 im iz rw t0 u0 h0 y0 sv ra0 rb0 rc0 rd0 rah raz ra1 ras raf rbh rbz rb1 rbs rbf rch rcz rc1 rcs rcf rdh rdz rd1 rds rdf nn nm nl no nu n1 n2 n3 n4 n5 n6 n7 n8 n9 n10 nf1 nf2 nf3 nf9)) args s 0 0 A) (F0 m 17 ls []) := by
        intro fu_17
        induction fu_17 with
        | zero => intro k17 x17_3 hk17 hmu; exact absurd hmu (Nat.not_lt_zero _)
        | succ fu_17 ih_17 =>
          intro k17 x17_3 hk17 hmu_17 H locs ls V hl
          refine lv_iload hx hb dX7_seen_17 (lv_at hl 0 rfl) ?_
          refine lv_aload_n hx hb dX7_seen_19 rfl (lv_at hl 3 rfl) ?_
          refine g_get hC V (ci := 7) uwX7 0 rfl rfl 0 (by decide) w_249 rfl rfl dX7_seen_20 ?_
          refine g_callVU (nA := 0) hC V hl.1 (s_everyone l D T n0 nn nm nl no nu n1 n2 n3 n4 n5 n6 n7 n8 n9 n10 (by first | assumption | omega)) w_682 w_463 w_464 w_3 w_465 (by decide +kernel) rfl ⟨(Nat.le_of_ble_eq_true rfl), (Nat.le_of_ble_eq_true rfl)⟩ 10 (ci := 5) rfl rfl [10] rfl rfl (Nat.le_of_ble_eq_true rfl) dX7_seen_23 ⟨(Nat.le_of_ble_eq_true rfl), (Nat.le_of_ble_eq_true rfl)⟩ rfl (fun r w1 H locs hQ V => ?_)
          obtain ⟨rfl, rfl⟩ := hQ
          have V : gW D T A s [(o, .inr (7, [.ref n0, .ref s0, .ref im, .ref iz, .ref rw, .ref t0, .ref u0, .ref h0, .ref y0, sv])), (rw, .inl (T 5, 4, .inr (.inr (.inr (.inr (va_up (va_up (va_up (va_up (fun _ => none) 0 (some ra0)) 1 (some rb0)) 2 (some rc0)) 3 (some rd0))))))), (ra0, .inr (1, [.int rah, .int (nI raz), .ref ra1, .int (nI ras)])), (ra1, .inl (T 1, 40, .inr (.inl raf))), (rb0, .inr (1, [.int rbh, .int (nI rbz), .ref rb1, .int (nI rbs)])), (rb1, .inl (T 1, 40, .inr (.inl rbf))), (rc0, .inr (1, [.int rch, .int (nI rcz), .ref rc1, .int (nI rcs)])), (rc1, .inl (T 1, 40, .inr (.inl rcf))), (rd0, .inr (1, [.int rdh, .int (nI rdz), .ref rd1, .int (nI rds)])), (rd1, .inl (T 1, 40, .inr (.inl rdf))), (n0, .inr (5, [.int (nI nn), .int nm, .int nl, .int no, .int nu, .ref n1, .ref n2, .ref n3, .ref n4, .ref n5, .ref n6, .ref n7, .ref n8, .ref n9, .ref n10])), (n1, .inl (T 0, 10, .inl nf1)), (n2, .inl (T 0, 10, .inl nf2)), (n3, .inl (T 0, 10, .inl nf3)), (n9, .inl (T 0, 10, .inl nf9))] H locs := V _ [10] rfl rfl rfl (by decide +kernel) rfl
          show W p l e _ s m args below meth c H locs _ _ _ (F0 m 26 ls [.int (nI (2 ^ nn - 1)), .int (nI k17)])
          refine lv_icmp_gt (tgt := 56) hx hb dX7_seen_26 (by decide) (fun c_13 => ?_) (fun c_13 => ?_)
          · skip
            have c_13 := b_lt (by omega) (by omega) c_13
            refine lv_iload_n hx hb dX7_seen_56 rfl (lv_at hl 1 rfl) ?_
            exact g_iret (Qr := (q_x_seen T o row n0 s0 im iz rw t0 u0 h0 y0 sv ra0 rb0 rc0 rd0 rah raz ra1 ras raf rbh rbz rb1 rbs rbf rch rcz rc1 rcs rcf rdh rdz rd1 rds rdf nn nm nl no nu n1 n2 n3 n4 n5 n6 n7 n8 n9 n10 nf1 nf2 nf3 nf9)) hC V ⟨(Nat.le_of_ble_eq_true rfl), (Nat.le_of_ble_eq_true rfl)⟩ ⟨x17_3, rfl, rfl⟩ dX7_seen_57
          · skip
            have c_13 := b_nlt (by omega) (by omega) c_13
            refine lv_aload_n hx hb dX7_seen_29 rfl (lv_at hl 3 rfl) ?_
            refine g_get hC V (ci := 7) uwX7 0 rfl rfl 0 (by decide) w_249 rfl rfl dX7_seen_30 ?_
            refine lv_aload_n hx hb dX7_seen_33 rfl (lv_at hl 3 rfl) ?_
            refine g_get hC V (ci := 7) uwX7 0 rfl rfl 4 (by decide) w_253 rfl rfl dX7_seen_34 ?_
            refine lv_iload_n hx hb dX7_seen_37 rfl (lv_at hl 4 rfl) ?_
            refine g_aald hC V 1 5 rfl rfl (vp_in_nI (by decide) (by decide)) (v := .ref rd0) (by rw [nI_clamp (by decide)]; rfl) dX7_seen_38 ?_
            refine lv_iload hx hb dX7_seen_39 (lv_at hl 0 rfl) ?_
            refine g_callVU (nA := 2) hC V hl.1 (s_comesAs l D T n0 rd0 (nI k17) nn nm nl no nu n1 n2 n3 n4 n5 n6 n7 n8 n9 n10 nf1 nf2 nf3 nf9 rdh rdz rd1 rds rdf (by first | assumption | omega)) w_787 w_788 w_789 w_3 w_790 (by decide +kernel) rfl ⟨(Nat.le_of_ble_eq_true rfl), (Nat.le_of_ble_eq_true rfl)⟩ 10 (ci := 5) rfl rfl [10, 11, 12, 13, 14, 8, 9] rfl rfl (Nat.le_of_ble_eq_true rfl) dX7_seen_41 ⟨(Nat.le_of_ble_eq_true rfl), (Nat.le_of_ble_eq_true rfl)⟩ rfl (fun r w1 H locs hQ V => ?_)
            rcases hQ with ⟨rfl, rfl⟩ | ⟨rfl, rfl⟩
            · have V : gW D T A s [(o, .inr (7, [.ref n0, .ref s0, .ref im, .ref iz, .ref rw, .ref t0, .ref u0, .ref h0, .ref y0, sv])), (rw, .inl (T 5, 4, .inr (.inr (.inr (.inr (va_up (va_up (va_up (va_up (fun _ => none) 0 (some ra0)) 1 (some rb0)) 2 (some rc0)) 3 (some rd0))))))), (ra0, .inr (1, [.int rah, .int (nI raz), .ref ra1, .int (nI ras)])), (ra1, .inl (T 1, 40, .inr (.inl raf))), (rb0, .inr (1, [.int rbh, .int (nI rbz), .ref rb1, .int (nI rbs)])), (rb1, .inl (T 1, 40, .inr (.inl rbf))), (rc0, .inr (1, [.int rch, .int (nI rcz), .ref rc1, .int (nI rcs)])), (rc1, .inl (T 1, 40, .inr (.inl rcf))), (rd0, .inr (1, [.int rdh, .int (nI rdz), .ref rd1, .int (nI rds)])), (rd1, .inl (T 1, 40, .inr (.inl rdf))), (n0, .inr (5, [.int (nI nn), .int nm, .int nl, .int no, .int nu, .ref n1, .ref n2, .ref n3, .ref n4, .ref n5, .ref n6, .ref n7, .ref n8, .ref n9, .ref n10])), (n1, .inl (T 0, 10, .inl nf1)), (n2, .inl (T 0, 10, .inl nf2)), (n3, .inl (T 0, 10, .inl nf3)), (n9, .inl (T 0, 10, .inl nf9))] H locs := V _ [8, 0, 0, 0, 0, 0, 0] rfl rfl rfl (by decide +kernel) rfl
              show W p l e _ s m args below meth c H locs _ _ _ (F0 m 44 ls [.int (nI 1)])
              refine lv_if_eq (tgt := 50) hx hb dX7_seen_44 (by decide) (fun c => absurd (show (nI 1) = 0 from c) (by decide +kernel)) (fun _ => ?_)
              refine lv_iinc (v := (x17_3 + 1)) (lv' := [(3, .int (x17_3 + 1)), (4, .int (nI k17)), (2, .int (nI 0)), (0, .ref o), (1, .int (nI 3))]) hx hb dX7_seen_47 hl (k := 1) rfl rfl (by decide) rfl (fun ls hl => ?_)
              refine lv_iinc (v := (nI (k17 + 1))) (lv' := [(4, .int (nI (k17 + 1))), (3, .int (x17_3 + 1)), (2, .int (nI 0)), (0, .ref o), (1, .int (nI 3))]) hx hb dX7_seen_50 hl (k := 1) rfl (nI_1 _) (by decide) rfl (fun ls hl => ?_)
              refine lv_goto (tgt := 17) hx hb dX7_seen_53 (by decide) ?_
              exact ih_17 (k17 + 1) (x17_3 + 1) (by omega) (by omega) _ _ _ V (lv_sub hl [0, 1, 2, 3, 4] rfl)
            · have V : gW D T A s [(o, .inr (7, [.ref n0, .ref s0, .ref im, .ref iz, .ref rw, .ref t0, .ref u0, .ref h0, .ref y0, sv])), (rw, .inl (T 5, 4, .inr (.inr (.inr (.inr (va_up (va_up (va_up (va_up (fun _ => none) 0 (some ra0)) 1 (some rb0)) 2 (some rc0)) 3 (some rd0))))))), (ra0, .inr (1, [.int rah, .int (nI raz), .ref ra1, .int (nI ras)])), (ra1, .inl (T 1, 40, .inr (.inl raf))), (rb0, .inr (1, [.int rbh, .int (nI rbz), .ref rb1, .int (nI rbs)])), (rb1, .inl (T 1, 40, .inr (.inl rbf))), (rc0, .inr (1, [.int rch, .int (nI rcz), .ref rc1, .int (nI rcs)])), (rc1, .inl (T 1, 40, .inr (.inl rcf))), (rd0, .inr (1, [.int rdh, .int (nI rdz), .ref rd1, .int (nI rds)])), (rd1, .inl (T 1, 40, .inr (.inl rdf))), (n0, .inr (5, [.int (nI nn), .int nm, .int nl, .int no, .int nu, .ref n1, .ref n2, .ref n3, .ref n4, .ref n5, .ref n6, .ref n7, .ref n8, .ref n9, .ref n10])), (n1, .inl (T 0, 10, .inl nf1)), (n2, .inl (T 0, 10, .inl nf2)), (n3, .inl (T 0, 10, .inl nf3)), (n9, .inl (T 0, 10, .inl nf9))] H locs := V _ [8, 0, 0, 0, 0, 0, 0] rfl rfl rfl (by decide +kernel) rfl
              show W p l e _ s m args below meth c H locs _ _ _ (F0 m 44 ls [.int (nI 0)])
              refine lv_if_eq (tgt := 50) hx hb dX7_seen_44 (by decide) (fun _ => ?_) (fun c => absurd (show (nI 0) = 0 by decide +kernel) c)
              refine lv_iinc (v := (nI (k17 + 1))) (lv' := [(4, .int (nI (k17 + 1))), (3, .int x17_3), (2, .int (nI 0)), (0, .ref o), (1, .int (nI 3))]) hx hb dX7_seen_50 hl (k := 0) rfl (nI_1 _) (by decide) rfl (fun ls hl => ?_)
              refine lv_goto (tgt := 17) hx hb dX7_seen_53 (by decide) ?_
              exact ih_17 (k17 + 1) x17_3 (by omega) (by omega) _ _ _ V (lv_sub hl [0, 1, 2, 3, 4] rfl)
      exact L_12 _ 0 (nI 0) (by omega) (Nat.lt_succ_self _) _ _ _ V (lv_sub hl [0, 1, 2, 3, 4] rfl)
  · have V : gW D T A s [(o, .inr (7, [.ref n0, .ref s0, .ref im, .ref iz, .ref rw, .ref t0, .ref u0, .ref h0, .ref y0, sv])), (rw, .inl (T 5, 4, .inr (.inr (.inr (.inr (va_up (va_up (va_up (va_up (fun _ => none) 0 (some ra0)) 1 (some rb0)) 2 (some rc0)) 3 (some rd0))))))), (ra0, .inr (1, [.int rah, .int (nI raz), .ref ra1, .int (nI ras)])), (ra1, .inl (T 1, 40, .inr (.inl raf))), (rb0, .inr (1, [.int rbh, .int (nI rbz), .ref rb1, .int (nI rbs)])), (rb1, .inl (T 1, 40, .inr (.inl rbf))), (rc0, .inr (1, [.int rch, .int (nI rcz), .ref rc1, .int (nI rcs)])), (rc1, .inl (T 1, 40, .inr (.inl rcf))), (rd0, .inr (1, [.int rdh, .int (nI rdz), .ref rd1, .int (nI rds)])), (rd1, .inl (T 1, 40, .inr (.inl rdf))), (n0, .inr (5, [.int (nI nn), .int nm, .int nl, .int no, .int nu, .ref n1, .ref n2, .ref n3, .ref n4, .ref n5, .ref n6, .ref n7, .ref n8, .ref n9, .ref n10])), (n1, .inl (T 0, 10, .inl nf1)), (n2, .inl (T 0, 10, .inl nf2)), (n3, .inl (T 0, 10, .inl nf3)), (n9, .inl (T 0, 10, .inl nf9))] H locs := V _ [0, 0, 0, 0, 0, 0, 0, 0, 0, 0, 0] rfl rfl rfl (by decide +kernel) rfl
    show W p l e _ s m args below meth c H locs _ _ _ (F0 m 5 ls [.int z_3])
    refine lv_istore_n (lv' := [(2, .int z_3), (0, .ref o), (1, .int row)]) hx hb dX7_seen_5 rfl hl (by decide) rfl (fun ls hl => ?_)
    refine lv_iload_n hx hb dX7_seen_6 rfl (lv_at hl 0 rfl) ?_
    refine lv_if_eq (tgt := 12) hx hb dX7_seen_7 (by decide) (fun c_14 => ?_) (fun c_14 => ?_)
    · skip
      exact (absurd c_14 (by assumption) : False).elim
    · skip
      refine lv_iload_n hx hb dX7_seen_10 rfl (lv_at hl 0 rfl) ?_
      exact g_iret (Qr := (q_x_seen T o row n0 s0 im iz rw t0 u0 h0 y0 sv ra0 rb0 rc0 rd0 rah raz ra1 ras raf rbh rbz rb1 rbs rbf rch rcz rc1 rcs rcf rdh rdz rd1 rds rdf nn nm nl no nu n1 n2 n3 n4 n5 n6 n7 n8 n9 n10 nf1 nf2 nf3 nf9)) hC V ⟨(Nat.le_of_ble_eq_true rfl), (Nat.le_of_ble_eq_true rfl)⟩ ⟨z_3, rfl, rfl⟩ dX7_seen_11

def q_x_sure (T : Nat → ClassId) (o : Nat) (row : Int32) (pu : Int32) (n0 : Nat) (s0 : Nat) (im : Nat) (iz : Nat) (rw : Nat) (t0 : Nat) (u0 : Nat) (h0 : Nat) (y0 : Nat) (sv : Value) (ra0 : Nat) (rb0 : Nat) (rc0 : Nat) (rd0 : Nat) (rah : Int32) (raz : Nat) (ra1 : Nat) (ras : Nat) (raf : Nat → Int64) (rbh : Int32) (rbz : Nat) (rb1 : Nat) (rbs : Nat) (rbf : Nat → Int64) (rch : Int32) (rcz : Nat) (rc1 : Nat) (rcs : Nat) (rcf : Nat → Int64) (rdh : Int32) (rdz : Nat) (rd1 : Nat) (rds : Nat) (rdf : Nat → Int64) (nn : Nat) (nm : Int32) (nl : Int32) (no : Int32) (nu : Int32) (n1 : Nat) (n2 : Nat) (n3 : Nat) (n4 : Nat) (n5 : Nat) (n6 : Nat) (n7 : Nat) (n8 : Nat) (n9 : Nat) (n10 : Nat) (nf1 : Nat → Int32) (nf2 : Nat → Int32) (nf3 : Nat → Int32) (nf9 : Nat → Int32) : Option Value → va_W → Prop := fun rr ww => (∃ (z : Int32), rr = some (.int z) ∧ ww = [(o, .inr (7, [.ref n0, .ref s0, .ref im, .ref iz, .ref rw, .ref t0, .ref u0, .ref h0, .ref y0, sv])), (rw, .inl (T 5, 4, .inr (.inr (.inr (.inr (va_up (va_up (va_up (va_up (fun _ => none) 0 (some ra0)) 1 (some rb0)) 2 (some rc0)) 3 (some rd0))))))), (ra0, .inr (1, [.int rah, .int (nI raz), .ref ra1, .int (nI ras)])), (ra1, .inl (T 1, 40, .inr (.inl raf))), (rb0, .inr (1, [.int rbh, .int (nI rbz), .ref rb1, .int (nI rbs)])), (rb1, .inl (T 1, 40, .inr (.inl rbf))), (rc0, .inr (1, [.int rch, .int (nI rcz), .ref rc1, .int (nI rcs)])), (rc1, .inl (T 1, 40, .inr (.inl rcf))), (rd0, .inr (1, [.int rdh, .int (nI rdz), .ref rd1, .int (nI rds)])), (rd1, .inl (T 1, 40, .inr (.inl rdf))), (n0, .inr (5, [.int (nI nn), .int nm, .int nl, .int no, .int nu, .ref n1, .ref n2, .ref n3, .ref n4, .ref n5, .ref n6, .ref n7, .ref n8, .ref n9, .ref n10])), (n1, .inl (T 0, 10, .inl nf1)), (n2, .inl (T 0, 10, .inl nf2)), (n3, .inl (T 0, 10, .inl nf3)), (n9, .inl (T 0, 10, .inl nf9))])
set_option maxHeartbeats 4000000 in
set_option maxRecDepth 100000 in
theorem x_sure (l : Launch) (D : va_G) (T : Nat → ClassId) (o : Nat) (row : Int32) (pu : Int32) (n0 : Nat) (s0 : Nat) (im : Nat) (iz : Nat) (rw : Nat) (t0 : Nat) (u0 : Nat) (h0 : Nat) (y0 : Nat) (sv : Value) (ra0 : Nat) (rb0 : Nat) (rc0 : Nat) (rd0 : Nat) (rah : Int32) (raz : Nat) (ra1 : Nat) (ras : Nat) (raf : Nat → Int64) (rbh : Int32) (rbz : Nat) (rb1 : Nat) (rbs : Nat) (rbf : Nat → Int64) (rch : Int32) (rcz : Nat) (rc1 : Nat) (rcs : Nat) (rcf : Nat → Int64) (rdh : Int32) (rdz : Nat) (rd1 : Nat) (rds : Nat) (rdf : Nat → Int64) (nn : Nat) (nm : Int32) (nl : Int32) (no : Int32) (nu : Int32) (n1 : Nat) (n2 : Nat) (n3 : Nat) (n4 : Nat) (n5 : Nat) (n6 : Nat) (n7 : Nat) (n8 : Nat) (n9 : Nat) (n10 : Nat) (nf1 : Nat → Int32) (nf2 : Nat → Int32) (nf3 : Nat → Int32) (nf9 : Nat → Int32) (h_n : nn ≤ 10) (h_zra : raz ≤ 40) (h_zrb : rbz ≤ 40) (h_zrc : rcz ≤ 40) (h_zrd : rdz ≤ 40) (h_sra : ras ≤ 3) (h_srb : rbs ≤ 3) (h_src : rcs ≤ 3) (h_srd : rds ≤ 3) : Ct l yX7_sure cX7_sure 7 (some .int) 4 0 0 D T [.ref o, .int row, .int pu] [(o, .inr (7, [.ref n0, .ref s0, .ref im, .ref iz, .ref rw, .ref t0, .ref u0, .ref h0, .ref y0, sv])), (rw, .inl (T 5, 4, .inr (.inr (.inr (.inr (va_up (va_up (va_up (va_up (fun _ => none) 0 (some ra0)) 1 (some rb0)) 2 (some rc0)) 3 (some rd0))))))), (ra0, .inr (1, [.int rah, .int (nI raz), .ref ra1, .int (nI ras)])), (ra1, .inl (T 1, 40, .inr (.inl raf))), (rb0, .inr (1, [.int rbh, .int (nI rbz), .ref rb1, .int (nI rbs)])), (rb1, .inl (T 1, 40, .inr (.inl rbf))), (rc0, .inr (1, [.int rch, .int (nI rcz), .ref rc1, .int (nI rcs)])), (rc1, .inl (T 1, 40, .inr (.inl rcf))), (rd0, .inr (1, [.int rdh, .int (nI rdz), .ref rd1, .int (nI rds)])), (rd1, .inl (T 1, 40, .inr (.inl rdf))), (n0, .inr (5, [.int (nI nn), .int nm, .int nl, .int no, .int nu, .ref n1, .ref n2, .ref n3, .ref n4, .ref n5, .ref n6, .ref n7, .ref n8, .ref n9, .ref n10])), (n1, .inl (T 0, 10, .inl nf1)), (n2, .inl (T 0, 10, .inl nf2)), (n3, .inl (T 0, 10, .inl nf3)), (n9, .inl (T 0, 10, .inl nf9))] (q_x_sure T o row pu n0 s0 im iz rw t0 u0 h0 y0 sv ra0 rb0 rc0 rd0 rah raz ra1 ras raf rbh rbz rb1 rbs rbf rch rcz rc1 rcs rcf rdh rdz rd1 rds rdf nn nm nl no nu n1 n2 n3 n4 n5 n6 n7 n8 n9 n10 nf1 nf2 nf3 nf9) := by
  refine Ct.of (cc := cX7_sure) (maxL := 7) (ret := (some .int)) (by decide) (Nat.le_of_ble_eq_true rfl) ?_
  intro p e s m args below meth c A ls hC hnm V hl
  obtain ⟨hx, hb, hr, hml, hown, hts, hlocks⟩ := id hC
  generalize hH : s.heap = H at V ⊢
  clear hH
  have hl : lv_has ls 7 [(0, .ref o), (1, .int row), (2, .int pu)] := hl
  generalize hlo : ([] : List Loc) = locs at V ⊢
  clear hlo
  have hpw := pw10 h_n
  refine lv_aload_n hx hb dX7_sure_0 rfl (lv_at hl 0 rfl) ?_
  refine lv_iload_n hx hb dX7_sure_1 rfl (lv_at hl 1 rfl) ?_
  refine g_callVU (nA := 1) hC V hl.1 (x_refusedSeen l D T o row n0 s0 im iz rw t0 u0 h0 y0 sv ra0 rb0 rc0 rd0 rah raz ra1 ras raf rbh rbz rb1 rbs rbf rch rcz rc1 rcs rcf rdh rdz rd1 rds rdf nn nm nl no nu n1 n2 n3 n4 n5 n6 n7 n8 n9 n10 (by first | assumption | omega) (by first | assumption | omega) (by first | assumption | omega) (by first | assumption | omega) (by first | assumption | omega) (by first | assumption | omega) (by first | assumption | omega) (by first | assumption | omega) (by first | assumption | omega)) w_598 w_600 w_s16 w_2 w_601 (by decide +kernel) rfl ⟨(Nat.le_of_ble_eq_true rfl), (Nat.le_of_ble_eq_true rfl)⟩ 0 (ci := 7) rfl rfl [0, 1, 2, 3, 4, 5, 6, 7, 8, 9, 10] rfl rfl (Nat.le_of_ble_eq_true rfl) dX7_sure_2 ⟨(Nat.le_of_ble_eq_true rfl), (Nat.le_of_ble_eq_true rfl)⟩ rfl (fun r w1 H locs hQ V => ?_)
  rcases hQ with ⟨rfl, rfl, f_1, f_2⟩ | ⟨z_3, rfl, rfl, f_4⟩
  · have V : gW D T A s [(o, .inr (7, [.ref n0, .ref s0, .ref im, .ref iz, .ref rw, .ref t0, .ref u0, .ref h0, .ref y0, sv])), (rw, .inl (T 5, 4, .inr (.inr (.inr (.inr (va_up (va_up (va_up (va_up (fun _ => none) 0 (some ra0)) 1 (some rb0)) 2 (some rc0)) 3 (some rd0))))))), (ra0, .inr (1, [.int rah, .int (nI raz), .ref ra1, .int (nI ras)])), (ra1, .inl (T 1, 40, .inr (.inl raf))), (rb0, .inr (1, [.int rbh, .int (nI rbz), .ref rb1, .int (nI rbs)])), (rb1, .inl (T 1, 40, .inr (.inl rbf))), (rc0, .inr (1, [.int rch, .int (nI rcz), .ref rc1, .int (nI rcs)])), (rc1, .inl (T 1, 40, .inr (.inl rcf))), (rd0, .inr (1, [.int rdh, .int (nI rdz), .ref rd1, .int (nI rds)])), (rd1, .inl (T 1, 40, .inr (.inl rdf))), (n0, .inr (5, [.int (nI nn), .int nm, .int nl, .int no, .int nu, .ref n1, .ref n2, .ref n3, .ref n4, .ref n5, .ref n6, .ref n7, .ref n8, .ref n9, .ref n10])), (n1, .inl (T 0, 10, .inl nf1)), (n2, .inl (T 0, 10, .inl nf2)), (n3, .inl (T 0, 10, .inl nf3)), (n9, .inl (T 0, 10, .inl nf9))] H locs := V _ [0, 0, 0, 0, 0, 0, 0, 0, 0, 0, 0] rfl rfl rfl (by decide +kernel) rfl
    show W p l e _ s m args below meth c H locs _ _ _ (F0 m 5 ls [.int (nI 0)])
    obtain ⟨j_5, hj_5, ej_5⟩ := g_idx (n := 4) (by decide) f_1 f_2
    rw [ej_5] at hl
    have hj_5 : j_5 = 0 ∨ j_5 = 1 ∨ j_5 = 2 ∨ j_5 = 3 := by omega
    rcases hj_5 with rfl | rfl | rfl | rfl
    · skip
      refine lv_istore_n (lv' := [(3, .int (nI 0)), (0, .ref o), (1, .int (nI 0)), (2, .int pu)]) hx hb dX7_sure_5 rfl hl (by decide) rfl (fun ls hl => ?_)
      refine lv_iload_n hx hb dX7_sure_6 rfl (lv_at hl 0 rfl) ?_
      refine lv_if_eq (tgt := 12) hx hb dX7_sure_7 (by decide) (fun _ => ?_) (fun c => absurd (show (nI 0) = 0 by decide +kernel) c)
      refine lv_aload_n hx hb dX7_sure_12 rfl (lv_at hl 1 rfl) ?_
      refine g_get hC V (ci := 7) uwX7 0 rfl rfl 0 (by decide) w_249 rfl rfl dX7_sure_13 ?_
      refine g_callVU (nA := 0) hC V hl.1 (s_everyone l D T n0 nn nm nl no nu n1 n2 n3 n4 n5 n6 n7 n8 n9 n10 (by first | assumption | omega)) w_682 w_463 w_464 w_3 w_465 (by decide +kernel) rfl ⟨(Nat.le_of_ble_eq_true rfl), (Nat.le_of_ble_eq_true rfl)⟩ 10 (ci := 5) rfl rfl [10] rfl rfl (Nat.le_of_ble_eq_true rfl) dX7_sure_16 ⟨(Nat.le_of_ble_eq_true rfl), (Nat.le_of_ble_eq_true rfl)⟩ rfl (fun r w1 H locs hQ V => ?_)
      obtain ⟨rfl, rfl⟩ := hQ
      have V : gW D T A s [(o, .inr (7, [.ref n0, .ref s0, .ref im, .ref iz, .ref rw, .ref t0, .ref u0, .ref h0, .ref y0, sv])), (rw, .inl (T 5, 4, .inr (.inr (.inr (.inr (va_up (va_up (va_up (va_up (fun _ => none) 0 (some ra0)) 1 (some rb0)) 2 (some rc0)) 3 (some rd0))))))), (ra0, .inr (1, [.int rah, .int (nI raz), .ref ra1, .int (nI ras)])), (ra1, .inl (T 1, 40, .inr (.inl raf))), (rb0, .inr (1, [.int rbh, .int (nI rbz), .ref rb1, .int (nI rbs)])), (rb1, .inl (T 1, 40, .inr (.inl rbf))), (rc0, .inr (1, [.int rch, .int (nI rcz), .ref rc1, .int (nI rcs)])), (rc1, .inl (T 1, 40, .inr (.inl rcf))), (rd0, .inr (1, [.int rdh, .int (nI rdz), .ref rd1, .int (nI rds)])), (rd1, .inl (T 1, 40, .inr (.inl rdf))), (n0, .inr (5, [.int (nI nn), .int nm, .int nl, .int no, .int nu, .ref n1, .ref n2, .ref n3, .ref n4, .ref n5, .ref n6, .ref n7, .ref n8, .ref n9, .ref n10])), (n1, .inl (T 0, 10, .inl nf1)), (n2, .inl (T 0, 10, .inl nf2)), (n3, .inl (T 0, 10, .inl nf3)), (n9, .inl (T 0, 10, .inl nf9))] H locs := V _ [10] rfl rfl rfl (by decide +kernel) rfl
      show W p l e _ s m args below meth c H locs _ _ _ (F0 m 19 ls [.int (nI (2 ^ nn - 1))])
      refine lv_istore (lv' := [(4, .int (nI (2 ^ nn - 1))), (3, .int (nI 0)), (0, .ref o), (1, .int (nI 0)), (2, .int pu)]) hx hb dX7_sure_19 hl (by decide) rfl (fun ls hl => ?_)
      refine lv_iconst (v := (nI 0)) hx hb dX7_sure_21 (by decide +kernel) ?_
      refine lv_istore (lv' := [(5, .int (nI 0)), (4, .int (nI (2 ^ nn - 1))), (3, .int (nI 0)), (0, .ref o), (1, .int (nI 0)), (2, .int pu)]) hx hb dX7_sure_22 hl (by decide) rfl (fun ls hl => ?_)
      refine lv_iconst (v := (nI 0)) hx hb dX7_sure_24 (by decide +kernel) ?_
      refine lv_istore (lv' := [(6, .int (nI 0)), (5, .int (nI 0)), (4, .int (nI (2 ^ nn - 1))), (3, .int (nI 0)), (0, .ref o), (1, .int (nI 0)), (2, .int pu)]) hx hb dX7_sure_25 hl (by decide) rfl (fun ls hl => ?_)
      have L_6 : ∀ (fu : Nat) (k27 : Nat) (x27_5 : Int32) (x27_4 : Int32), k27 ≤ 2 ^ nn → 2 ^ nn - k27 < fu → ∀ (H : Heap) (locs : List Loc) (ls : Array Slot), gW D T A s [(o, .inr (7, [.ref n0, .ref s0, .ref im, .ref iz, .ref rw, .ref t0, .ref u0, .ref h0, .ref y0, sv])), (rw, .inl (T 5, 4, .inr (.inr (.inr (.inr (va_up (va_up (va_up (va_up (fun _ => none) 0 (some ra0)) 1 (some rb0)) 2 (some rc0)) 3 (some rd0))))))), (ra0, .inr (1, [.int rah, .int (nI raz), .ref ra1, .int (nI ras)])), (ra1, .inl (T 1, 40, .inr (.inl raf))), (rb0, .inr (1, [.int rbh, .int (nI rbz), .ref rb1, .int (nI rbs)])), (rb1, .inl (T 1, 40, .inr (.inl rbf))), (rc0, .inr (1, [.int rch, .int (nI rcz), .ref rc1, .int (nI rcs)])), (rc1, .inl (T 1, 40, .inr (.inl rcf))), (rd0, .inr (1, [.int rdh, .int (nI rdz), .ref rd1, .int (nI rds)])), (rd1, .inl (T 1, 40, .inr (.inl rdf))), (n0, .inr (5, [.int (nI nn), .int nm, .int nl, .int no, .int nu, .ref n1, .ref n2, .ref n3, .ref n4, .ref n5, .ref n6, .ref n7, .ref n8, .ref n9, .ref n10])), (n1, .inl (T 0, 10, .inl nf1)), (n2, .inl (T 0, 10, .inl nf2)), (n3, .inl (T 0, 10, .inl nf3)), (n9, .inl (T 0, 10, .inl nf9))] H locs → lv_has ls 7 [(6, .int (nI k27)), (5, .int x27_5), (4, .int x27_4), (3, .int (nI 0)), (0, .ref o), (1, .int (nI 0)), (2, .int pu)] → W p l e (rmD 4 0 0) s m args below meth c H locs 0 0 (MQ below (gQ D A (q_x_sure T o row pu n0 s0 im iz rw t0 u0 h0 y0 sv ra0 rb0 rc0 rd0 rah raz ra1 ras raf rbh rbz rb1 rbs rbf rch rcz rc1 rcs rcf rdh rdz rd1 rds rdf nn nm nl no nu n1 n2 n3 n4 n5 n6 n7 n8 n9 n10 nf1 nf2 nf3 nf9)) args s 0 0 A) (F0 m 27 ls []) := by
        intro fu_27
        induction fu_27 with
        | zero => intro k27 x27_5 x27_4 hk27 hmu; exact absurd hmu (Nat.not_lt_zero _)
        | succ fu_27 ih_27 =>
          intro k27 x27_5 x27_4 hk27 hmu_27 H locs ls V hl
          refine lv_iload hx hb dX7_sure_27 (lv_at hl 0 rfl) ?_
          refine lv_aload_n hx hb dX7_sure_29 rfl (lv_at hl 4 rfl) ?_
          refine g_get hC V (ci := 7) uwX7 0 rfl rfl 0 (by decide) w_249 rfl rfl dX7_sure_30 ?_
          refine g_callVU (nA := 0) hC V hl.1 (s_everyone l D T n0 nn nm nl no nu n1 n2 n3 n4 n5 n6 n7 n8 n9 n10 (by first | assumption | omega)) w_682 w_463 w_464 w_3 w_465 (by decide +kernel) rfl ⟨(Nat.le_of_ble_eq_true rfl), (Nat.le_of_ble_eq_true rfl)⟩ 10 (ci := 5) rfl rfl [10] rfl rfl (Nat.le_of_ble_eq_true rfl) dX7_sure_33 ⟨(Nat.le_of_ble_eq_true rfl), (Nat.le_of_ble_eq_true rfl)⟩ rfl (fun r w1 H locs hQ V => ?_)
          obtain ⟨rfl, rfl⟩ := hQ
          have V : gW D T A s [(o, .inr (7, [.ref n0, .ref s0, .ref im, .ref iz, .ref rw, .ref t0, .ref u0, .ref h0, .ref y0, sv])), (rw, .inl (T 5, 4, .inr (.inr (.inr (.inr (va_up (va_up (va_up (va_up (fun _ => none) 0 (some ra0)) 1 (some rb0)) 2 (some rc0)) 3 (some rd0))))))), (ra0, .inr (1, [.int rah, .int (nI raz), .ref ra1, .int (nI ras)])), (ra1, .inl (T 1, 40, .inr (.inl raf))), (rb0, .inr (1, [.int rbh, .int (nI rbz), .ref rb1, .int (nI rbs)])), (rb1, .inl (T 1, 40, .inr (.inl rbf))), (rc0, .inr (1, [.int rch, .int (nI rcz), .ref rc1, .int (nI rcs)])), (rc1, .inl (T 1, 40, .inr (.inl rcf))), (rd0, .inr (1, [.int rdh, .int (nI rdz), .ref rd1, .int (nI rds)])), (rd1, .inl (T 1, 40, .inr (.inl rdf))), (n0, .inr (5, [.int (nI nn), .int nm, .int nl, .int no, .int nu, .ref n1, .ref n2, .ref n3, .ref n4, .ref n5, .ref n6, .ref n7, .ref n8, .ref n9, .ref n10])), (n1, .inl (T 0, 10, .inl nf1)), (n2, .inl (T 0, 10, .inl nf2)), (n3, .inl (T 0, 10, .inl nf3)), (n9, .inl (T 0, 10, .inl nf9))] H locs := V _ [10] rfl rfl rfl (by decide +kernel) rfl
          show W p l e _ s m args below meth c H locs _ _ _ (F0 m 36 ls [.int (nI (2 ^ nn - 1)), .int (nI k27)])
          refine lv_icmp_gt (tgt := 84) hx hb dX7_sure_36 (by decide) (fun c_7 => ?_) (fun c_7 => ?_)
          · skip
            have c_7 := b_lt (by omega) (by omega) c_7
            refine lv_iload hx hb dX7_sure_84 (lv_at hl 1 rfl) ?_
            refine lv_if_eq (tgt := 94) hx hb dX7_sure_86 (by decide) (fun c_8 => ?_) (fun c_8 => ?_)
            · skip
              refine lv_iconst (v := (nI 0)) hx hb dX7_sure_94 (by decide +kernel) ?_
              exact g_iret (Qr := (q_x_sure T o row pu n0 s0 im iz rw t0 u0 h0 y0 sv ra0 rb0 rc0 rd0 rah raz ra1 ras raf rbh rbz rb1 rbs rbf rch rcz rc1 rcs rcf rdh rdz rd1 rds rdf nn nm nl no nu n1 n2 n3 n4 n5 n6 n7 n8 n9 n10 nf1 nf2 nf3 nf9)) hC V ⟨(Nat.le_of_ble_eq_true rfl), (Nat.le_of_ble_eq_true rfl)⟩ ⟨(nI 0), rfl, rfl⟩ dX7_sure_95
            · skip
              refine lv_iload hx hb dX7_sure_89 (lv_at hl 2 rfl) ?_
              refine lv_goto (tgt := 95) hx hb dX7_sure_91 (by decide) ?_
              exact g_iret (Qr := (q_x_sure T o row pu n0 s0 im iz rw t0 u0 h0 y0 sv ra0 rb0 rc0 rd0 rah raz ra1 ras raf rbh rbz rb1 rbs rbf rch rcz rc1 rcs rcf rdh rdz rd1 rds rdf nn nm nl no nu n1 n2 n3 n4 n5 n6 n7 n8 n9 n10 nf1 nf2 nf3 nf9)) hC V ⟨(Nat.le_of_ble_eq_true rfl), (Nat.le_of_ble_eq_true rfl)⟩ ⟨x27_4, rfl, rfl⟩ dX7_sure_95
          · skip
            have c_7 := b_nlt (by omega) (by omega) c_7
            refine lv_aload_n hx hb dX7_sure_39 rfl (lv_at hl 4 rfl) ?_
            refine g_get hC V (ci := 7) uwX7 0 rfl rfl 0 (by decide) w_249 rfl rfl dX7_sure_40 ?_
            refine lv_aload_n hx hb dX7_sure_43 rfl (lv_at hl 4 rfl) ?_
            refine g_get hC V (ci := 7) uwX7 0 rfl rfl 4 (by decide) w_253 rfl rfl dX7_sure_44 ?_
            refine lv_iload_n hx hb dX7_sure_47 rfl (lv_at hl 5 rfl) ?_
            refine g_aald hC V 1 5 rfl rfl (vp_in_nI (by decide) (by decide)) (v := .ref ra0) (by rw [nI_clamp (by decide)]; rfl) dX7_sure_48 ?_
            refine lv_iload hx hb dX7_sure_49 (lv_at hl 0 rfl) ?_
            refine g_callVU (nA := 2) hC V hl.1 (s_comesAs l D T n0 ra0 (nI k27) nn nm nl no nu n1 n2 n3 n4 n5 n6 n7 n8 n9 n10 nf1 nf2 nf3 nf9 rah raz ra1 ras raf (by first | assumption | omega)) w_787 w_788 w_789 w_3 w_790 (by decide +kernel) rfl ⟨(Nat.le_of_ble_eq_true rfl), (Nat.le_of_ble_eq_true rfl)⟩ 10 (ci := 5) rfl rfl [10, 11, 12, 13, 14, 2, 3] rfl rfl (Nat.le_of_ble_eq_true rfl) dX7_sure_51 ⟨(Nat.le_of_ble_eq_true rfl), (Nat.le_of_ble_eq_true rfl)⟩ rfl (fun r w1 H locs hQ V => ?_)
            rcases hQ with ⟨rfl, rfl⟩ | ⟨rfl, rfl⟩
            · have V : gW D T A s [(o, .inr (7, [.ref n0, .ref s0, .ref im, .ref iz, .ref rw, .ref t0, .ref u0, .ref h0, .ref y0, sv])), (rw, .inl (T 5, 4, .inr (.inr (.inr (.inr (va_up (va_up (va_up (va_up (fun _ => none) 0 (some ra0)) 1 (some rb0)) 2 (some rc0)) 3 (some rd0))))))), (ra0, .inr (1, [.int rah, .int (nI raz), .ref ra1, .int (nI ras)])), (ra1, .inl (T 1, 40, .inr (.inl raf))), (rb0, .inr (1, [.int rbh, .int (nI rbz), .ref rb1, .int (nI rbs)])), (rb1, .inl (T 1, 40, .inr (.inl rbf))), (rc0, .inr (1, [.int rch, .int (nI rcz), .ref rc1, .int (nI rcs)])), (rc1, .inl (T 1, 40, .inr (.inl rcf))), (rd0, .inr (1, [.int rdh, .int (nI rdz), .ref rd1, .int (nI rds)])), (rd1, .inl (T 1, 40, .inr (.inl rdf))), (n0, .inr (5, [.int (nI nn), .int nm, .int nl, .int no, .int nu, .ref n1, .ref n2, .ref n3, .ref n4, .ref n5, .ref n6, .ref n7, .ref n8, .ref n9, .ref n10])), (n1, .inl (T 0, 10, .inl nf1)), (n2, .inl (T 0, 10, .inl nf2)), (n3, .inl (T 0, 10, .inl nf3)), (n9, .inl (T 0, 10, .inl nf9))] H locs := V _ [2, 0, 6, 0, 0, 0, 0] rfl rfl rfl (by decide +kernel) rfl
              show W p l e _ s m args below meth c H locs _ _ _ (F0 m 54 ls [.int (nI 1)])
              refine lv_if_eq (tgt := 78) hx hb dX7_sure_54 (by decide) (fun c => absurd (show (nI 1) = 0 from c) (by decide +kernel)) (fun _ => ?_)
              refine lv_iconst (v := (nI 1)) hx hb dX7_sure_57 (by decide +kernel) ?_
              refine lv_istore (lv' := [(5, .int (nI 1)), (6, .int (nI k27)), (4, .int x27_4), (3, .int (nI 0)), (0, .ref o), (1, .int (nI 0)), (2, .int pu)]) hx hb dX7_sure_58 hl (by decide) rfl (fun ls hl => ?_)
              refine lv_iload hx hb dX7_sure_60 (lv_at hl 2 rfl) ?_
              refine lv_iload_n hx hb dX7_sure_62 rfl (lv_at hl 6 rfl) ?_
              refine lv_if_eq (tgt := 71) hx hb dX7_sure_63 (by decide) (fun c_9 => ?_) (fun c_9 => ?_)
              · skip
                refine lv_iload hx hb dX7_sure_71 (lv_at hl 1 rfl) ?_
                refine lv_iconst (v := (-1)) hx hb dX7_sure_73 (by decide +kernel) ?_
                refine lv_ixor hx hb dX7_sure_74 ?_
                refine lv_iand hx hb dX7_sure_75 ?_
                refine lv_istore (lv' := [(4, .int (x27_4 &&& ((nI k27) ^^^ (-1)))), (5, .int (nI 1)), (6, .int (nI k27)), (3, .int (nI 0)), (0, .ref o), (1, .int (nI 0)), (2, .int pu)]) hx hb dX7_sure_76 hl (by decide) rfl (fun ls hl => ?_)
                refine lv_iinc (v := (nI (k27 + 1))) (lv' := [(6, .int (nI (k27 + 1))), (4, .int (x27_4 &&& ((nI k27) ^^^ (-1)))), (5, .int (nI 1)), (3, .int (nI 0)), (0, .ref o), (1, .int (nI 0)), (2, .int pu)]) hx hb dX7_sure_78 hl (k := 2) rfl (nI_1 _) (by decide) rfl (fun ls hl => ?_)
                refine lv_goto (tgt := 27) hx hb dX7_sure_81 (by decide) ?_
                exact ih_27 (k27 + 1) (nI 1) (x27_4 &&& ((nI k27) ^^^ (-1))) (by omega) (by omega) _ _ _ V (lv_sub hl [0, 2, 1, 3, 4, 5, 6] rfl)
              · skip
                refine lv_iload hx hb dX7_sure_66 (lv_at hl 1 rfl) ?_
                refine lv_goto (tgt := 75) hx hb dX7_sure_68 (by decide) ?_
                refine lv_iand hx hb dX7_sure_75 ?_
                refine lv_istore (lv' := [(4, .int (x27_4 &&& (nI k27))), (5, .int (nI 1)), (6, .int (nI k27)), (3, .int (nI 0)), (0, .ref o), (1, .int (nI 0)), (2, .int pu)]) hx hb dX7_sure_76 hl (by decide) rfl (fun ls hl => ?_)
                refine lv_iinc (v := (nI (k27 + 1))) (lv' := [(6, .int (nI (k27 + 1))), (4, .int (x27_4 &&& (nI k27))), (5, .int (nI 1)), (3, .int (nI 0)), (0, .ref o), (1, .int (nI 0)), (2, .int pu)]) hx hb dX7_sure_78 hl (k := 2) rfl (nI_1 _) (by decide) rfl (fun ls hl => ?_)
                refine lv_goto (tgt := 27) hx hb dX7_sure_81 (by decide) ?_
                exact ih_27 (k27 + 1) (nI 1) (x27_4 &&& (nI k27)) (by omega) (by omega) _ _ _ V (lv_sub hl [0, 2, 1, 3, 4, 5, 6] rfl)
            · have V : gW D T A s [(o, .inr (7, [.ref n0, .ref s0, .ref im, .ref iz, .ref rw, .ref t0, .ref u0, .ref h0, .ref y0, sv])), (rw, .inl (T 5, 4, .inr (.inr (.inr (.inr (va_up (va_up (va_up (va_up (fun _ => none) 0 (some ra0)) 1 (some rb0)) 2 (some rc0)) 3 (some rd0))))))), (ra0, .inr (1, [.int rah, .int (nI raz), .ref ra1, .int (nI ras)])), (ra1, .inl (T 1, 40, .inr (.inl raf))), (rb0, .inr (1, [.int rbh, .int (nI rbz), .ref rb1, .int (nI rbs)])), (rb1, .inl (T 1, 40, .inr (.inl rbf))), (rc0, .inr (1, [.int rch, .int (nI rcz), .ref rc1, .int (nI rcs)])), (rc1, .inl (T 1, 40, .inr (.inl rcf))), (rd0, .inr (1, [.int rdh, .int (nI rdz), .ref rd1, .int (nI rds)])), (rd1, .inl (T 1, 40, .inr (.inl rdf))), (n0, .inr (5, [.int (nI nn), .int nm, .int nl, .int no, .int nu, .ref n1, .ref n2, .ref n3, .ref n4, .ref n5, .ref n6, .ref n7, .ref n8, .ref n9, .ref n10])), (n1, .inl (T 0, 10, .inl nf1)), (n2, .inl (T 0, 10, .inl nf2)), (n3, .inl (T 0, 10, .inl nf3)), (n9, .inl (T 0, 10, .inl nf9))] H locs := V _ [2, 0, 6, 0, 0, 0, 0] rfl rfl rfl (by decide +kernel) rfl
              show W p l e _ s m args below meth c H locs _ _ _ (F0 m 54 ls [.int (nI 0)])
              refine lv_if_eq (tgt := 78) hx hb dX7_sure_54 (by decide) (fun _ => ?_) (fun c => absurd (show (nI 0) = 0 by decide +kernel) c)
              refine lv_iinc (v := (nI (k27 + 1))) (lv' := [(6, .int (nI (k27 + 1))), (5, .int x27_5), (4, .int x27_4), (3, .int (nI 0)), (0, .ref o), (1, .int (nI 0)), (2, .int pu)]) hx hb dX7_sure_78 hl (k := 0) rfl (nI_1 _) (by decide) rfl (fun ls hl => ?_)
              refine lv_goto (tgt := 27) hx hb dX7_sure_81 (by decide) ?_
              exact ih_27 (k27 + 1) x27_5 x27_4 (by omega) (by omega) _ _ _ V (lv_sub hl [0, 1, 2, 3, 4, 5, 6] rfl)
      exact L_6 _ 0 (nI 0) (nI (2 ^ nn - 1)) (by omega) (Nat.lt_succ_self _) _ _ _ V (lv_sub hl [0, 1, 2, 3, 4, 5, 6] rfl)
    · skip
      refine lv_istore_n (lv' := [(3, .int (nI 0)), (0, .ref o), (1, .int (nI 1)), (2, .int pu)]) hx hb dX7_sure_5 rfl hl (by decide) rfl (fun ls hl => ?_)
      refine lv_iload_n hx hb dX7_sure_6 rfl (lv_at hl 0 rfl) ?_
      refine lv_if_eq (tgt := 12) hx hb dX7_sure_7 (by decide) (fun _ => ?_) (fun c => absurd (show (nI 0) = 0 by decide +kernel) c)
      refine lv_aload_n hx hb dX7_sure_12 rfl (lv_at hl 1 rfl) ?_
      refine g_get hC V (ci := 7) uwX7 0 rfl rfl 0 (by decide) w_249 rfl rfl dX7_sure_13 ?_
      refine g_callVU (nA := 0) hC V hl.1 (s_everyone l D T n0 nn nm nl no nu n1 n2 n3 n4 n5 n6 n7 n8 n9 n10 (by first | assumption | omega)) w_682 w_463 w_464 w_3 w_465 (by decide +kernel) rfl ⟨(Nat.le_of_ble_eq_true rfl), (Nat.le_of_ble_eq_true rfl)⟩ 10 (ci := 5) rfl rfl [10] rfl rfl (Nat.le_of_ble_eq_true rfl) dX7_sure_16 ⟨(Nat.le_of_ble_eq_true rfl), (Nat.le_of_ble_eq_true rfl)⟩ rfl (fun r w1 H locs hQ V => ?_)
      obtain ⟨rfl, rfl⟩ := hQ
      have V : gW D T A s [(o, .inr (7, [.ref n0, .ref s0, .ref im, .ref iz, .ref rw, .ref t0, .ref u0, .ref h0, .ref y0, sv])), (rw, .inl (T 5, 4, .inr (.inr (.inr (.inr (va_up (va_up (va_up (va_up (fun _ => none) 0 (some ra0)) 1 (some rb0)) 2 (some rc0)) 3 (some rd0))))))), (ra0, .inr (1, [.int rah, .int (nI raz), .ref ra1, .int (nI ras)])), (ra1, .inl (T 1, 40, .inr (.inl raf))), (rb0, .inr (1, [.int rbh, .int (nI rbz), .ref rb1, .int (nI rbs)])), (rb1, .inl (T 1, 40, .inr (.inl rbf))), (rc0, .inr (1, [.int rch, .int (nI rcz), .ref rc1, .int (nI rcs)])), (rc1, .inl (T 1, 40, .inr (.inl rcf))), (rd0, .inr (1, [.int rdh, .int (nI rdz), .ref rd1, .int (nI rds)])), (rd1, .inl (T 1, 40, .inr (.inl rdf))), (n0, .inr (5, [.int (nI nn), .int nm, .int nl, .int no, .int nu, .ref n1, .ref n2, .ref n3, .ref n4, .ref n5, .ref n6, .ref n7, .ref n8, .ref n9, .ref n10])), (n1, .inl (T 0, 10, .inl nf1)), (n2, .inl (T 0, 10, .inl nf2)), (n3, .inl (T 0, 10, .inl nf3)), (n9, .inl (T 0, 10, .inl nf9))] H locs := V _ [10] rfl rfl rfl (by decide +kernel) rfl
      show W p l e _ s m args below meth c H locs _ _ _ (F0 m 19 ls [.int (nI (2 ^ nn - 1))])
      refine lv_istore (lv' := [(4, .int (nI (2 ^ nn - 1))), (3, .int (nI 0)), (0, .ref o), (1, .int (nI 1)), (2, .int pu)]) hx hb dX7_sure_19 hl (by decide) rfl (fun ls hl => ?_)
      refine lv_iconst (v := (nI 0)) hx hb dX7_sure_21 (by decide +kernel) ?_
      refine lv_istore (lv' := [(5, .int (nI 0)), (4, .int (nI (2 ^ nn - 1))), (3, .int (nI 0)), (0, .ref o), (1, .int (nI 1)), (2, .int pu)]) hx hb dX7_sure_22 hl (by decide) rfl (fun ls hl => ?_)
      refine lv_iconst (v := (nI 0)) hx hb dX7_sure_24 (by decide +kernel) ?_
      refine lv_istore (lv' := [(6, .int (nI 0)), (5, .int (nI 0)), (4, .int (nI (2 ^ nn - 1))), (3, .int (nI 0)), (0, .ref o), (1, .int (nI 1)), (2, .int pu)]) hx hb dX7_sure_25 hl (by decide) rfl (fun ls hl => ?_)
      have L_10 : ∀ (fu : Nat) (k27 : Nat) (x27_5 : Int32) (x27_4 : Int32), k27 ≤ 2 ^ nn → 2 ^ nn - k27 < fu → ∀ (H : Heap) (locs : List Loc) (ls : Array Slot), gW D T A s [(o, .inr (7, [.ref n0, .ref s0, .ref im, .ref iz, .ref rw, .ref t0, .ref u0, .ref h0, .ref y0, sv])), (rw, .inl (T 5, 4, .inr (.inr (.inr (.inr (va_up (va_up (va_up (va_up (fun _ => none) 0 (some ra0)) 1 (some rb0)) 2 (some rc0)) 3 (some rd0))))))), (ra0, .inr (1, [.int rah, .int (nI raz), .ref ra1, .int (nI ras)])), (ra1, .inl (T 1, 40, .inr (.inl raf))), (rb0, .inr (1, [.int rbh, .int (nI rbz), .ref rb1, .int (nI rbs)])), (rb1, .inl (T 1, 40, .inr (.inl rbf))), (rc0, .inr (1, [.int rch, .int (nI rcz), .ref rc1, .int (nI rcs)])), (rc1, .inl (T 1, 40, .inr (.inl rcf))), (rd0, .inr (1, [.int rdh, .int (nI rdz), .ref rd1, .int (nI rds)])), (rd1, .inl (T 1, 40, .inr (.inl rdf))), (n0, .inr (5, [.int (nI nn), .int nm, .int nl, .int no, .int nu, .ref n1, .ref n2, .ref n3, .ref n4, .ref n5, .ref n6, .ref n7, .ref n8, .ref n9, .ref n10])), (n1, .inl (T 0, 10, .inl nf1)), (n2, .inl (T 0, 10, .inl nf2)), (n3, .inl (T 0, 10, .inl nf3)), (n9, .inl (T 0, 10, .inl nf9))] H locs → lv_has ls 7 [(6, .int (nI k27)), (5, .int x27_5), (4, .int x27_4), (3, .int (nI 0)), (0, .ref o), (1, .int (nI 1)), (2, .int pu)] → W p l e (rmD 4 0 0) s m args below meth c H locs 0 0 (MQ below (gQ D A (q_x_sure T o row pu n0 s0 im iz rw t0 u0 h0 y0 sv ra0 rb0 rc0 rd0 rah raz ra1 ras raf rbh rbz rb1 rbs rbf rch rcz rc1 rcs rcf rdh rdz rd1 rds rdf nn nm nl no nu n1 n2 n3 n4 n5 n6 n7 n8 n9 n10 nf1 nf2 nf3 nf9)) args s 0 0 A) (F0 m 27 ls []) := by
        intro fu_27
        induction fu_27 with
        | zero => intro k27 x27_5 x27_4 hk27 hmu; exact absurd hmu (Nat.not_lt_zero _)
        | succ fu_27 ih_27 =>
          intro k27 x27_5 x27_4 hk27 hmu_27 H locs ls V hl
          refine lv_iload hx hb dX7_sure_27 (lv_at hl 0 rfl) ?_
          refine lv_aload_n hx hb dX7_sure_29 rfl (lv_at hl 4 rfl) ?_
          refine g_get hC V (ci := 7) uwX7 0 rfl rfl 0 (by decide) w_249 rfl rfl dX7_sure_30 ?_
          refine g_callVU (nA := 0) hC V hl.1 (s_everyone l D T n0 nn nm nl no nu n1 n2 n3 n4 n5 n6 n7 n8 n9 n10 (by first | assumption | omega)) w_682 w_463 w_464 w_3 w_465 (by decide +kernel) rfl ⟨(Nat.le_of_ble_eq_true rfl), (Nat.le_of_ble_eq_true rfl)⟩ 10 (ci := 5) rfl rfl [10] rfl rfl (Nat.le_of_ble_eq_true rfl) dX7_sure_33 ⟨(Nat.le_of_ble_eq_true rfl), (Nat.le_of_ble_eq_true rfl)⟩ rfl (fun r w1 H locs hQ V => ?_)
          obtain ⟨rfl, rfl⟩ := hQ
          have V : gW D T A s [(o, .inr (7, [.ref n0, .ref s0, .ref im, .ref iz, .ref rw, .ref t0, .ref u0, .ref h0, .ref y0, sv])), (rw, .inl (T 5, 4, .inr (.inr (.inr (.inr (va_up (va_up (va_up (va_up (fun _ => none) 0 (some ra0)) 1 (some rb0)) 2 (some rc0)) 3 (some rd0))))))), (ra0, .inr (1, [.int rah, .int (nI raz), .ref ra1, .int (nI ras)])), (ra1, .inl (T 1, 40, .inr (.inl raf))), (rb0, .inr (1, [.int rbh, .int (nI rbz), .ref rb1, .int (nI rbs)])), (rb1, .inl (T 1, 40, .inr (.inl rbf))), (rc0, .inr (1, [.int rch, .int (nI rcz), .ref rc1, .int (nI rcs)])), (rc1, .inl (T 1, 40, .inr (.inl rcf))), (rd0, .inr (1, [.int rdh, .int (nI rdz), .ref rd1, .int (nI rds)])), (rd1, .inl (T 1, 40, .inr (.inl rdf))), (n0, .inr (5, [.int (nI nn), .int nm, .int nl, .int no, .int nu, .ref n1, .ref n2, .ref n3, .ref n4, .ref n5, .ref n6, .ref n7, .ref n8, .ref n9, .ref n10])), (n1, .inl (T 0, 10, .inl nf1)), (n2, .inl (T 0, 10, .inl nf2)), (n3, .inl (T 0, 10, .inl nf3)), (n9, .inl (T 0, 10, .inl nf9))] H locs := V _ [10] rfl rfl rfl (by decide +kernel) rfl
          show W p l e _ s m args below meth c H locs _ _ _ (F0 m 36 ls [.int (nI (2 ^ nn - 1)), .int (nI k27)])
          refine lv_icmp_gt (tgt := 84) hx hb dX7_sure_36 (by decide) (fun c_11 => ?_) (fun c_11 => ?_)
          · skip
            have c_11 := b_lt (by omega) (by omega) c_11
            refine lv_iload hx hb dX7_sure_84 (lv_at hl 1 rfl) ?_
            refine lv_if_eq (tgt := 94) hx hb dX7_sure_86 (by decide) (fun c_12 => ?_) (fun c_12 => ?_)
            · skip
              refine lv_iconst (v := (nI 0)) hx hb dX7_sure_94 (by decide +kernel) ?_
              exact g_iret (Qr := (q_x_sure T o row pu n0 s0 im iz rw t0 u0 h0 y0 sv ra0 rb0 rc0 rd0 rah raz ra1 ras raf rbh rbz rb1 rbs rbf rch rcz rc1 rcs rcf rdh rdz rd1 rds rdf nn nm nl no nu n1 n2 n3 n4 n5 n6 n7 n8 n9 n10 nf1 nf2 nf3 nf9)) hC V ⟨(Nat.le_of_ble_eq_true rfl), (Nat.le_of_ble_eq_true rfl)⟩ ⟨(nI 0), rfl, rfl⟩ dX7_sure_95
            · skip
              refine lv_iload hx hb dX7_sure_89 (lv_at hl 2 rfl) ?_
              refine lv_goto (tgt := 95) hx hb dX7_sure_91 (by decide) ?_
              exact g_iret (Qr := (q_x_sure T o row pu n0 s0 im iz rw t0 u0 h0 y0 sv ra0 rb0 rc0 rd0 rah raz ra1 ras raf rbh rbz rb1 rbs rbf rch rcz rc1 rcs rcf rdh rdz rd1 rds rdf nn nm nl no nu n1 n2 n3 n4 n5 n6 n7 n8 n9 n10 nf1 nf2 nf3 nf9)) hC V ⟨(Nat.le_of_ble_eq_true rfl), (Nat.le_of_ble_eq_true rfl)⟩ ⟨x27_4, rfl, rfl⟩ dX7_sure_95
          · skip
            have c_11 := b_nlt (by omega) (by omega) c_11
            refine lv_aload_n hx hb dX7_sure_39 rfl (lv_at hl 4 rfl) ?_
            refine g_get hC V (ci := 7) uwX7 0 rfl rfl 0 (by decide) w_249 rfl rfl dX7_sure_40 ?_
            refine lv_aload_n hx hb dX7_sure_43 rfl (lv_at hl 4 rfl) ?_
            refine g_get hC V (ci := 7) uwX7 0 rfl rfl 4 (by decide) w_253 rfl rfl dX7_sure_44 ?_
            refine lv_iload_n hx hb dX7_sure_47 rfl (lv_at hl 5 rfl) ?_
            refine g_aald hC V 1 5 rfl rfl (vp_in_nI (by decide) (by decide)) (v := .ref rb0) (by rw [nI_clamp (by decide)]; rfl) dX7_sure_48 ?_
            refine lv_iload hx hb dX7_sure_49 (lv_at hl 0 rfl) ?_
            refine g_callVU (nA := 2) hC V hl.1 (s_comesAs l D T n0 rb0 (nI k27) nn nm nl no nu n1 n2 n3 n4 n5 n6 n7 n8 n9 n10 nf1 nf2 nf3 nf9 rbh rbz rb1 rbs rbf (by first | assumption | omega)) w_787 w_788 w_789 w_3 w_790 (by decide +kernel) rfl ⟨(Nat.le_of_ble_eq_true rfl), (Nat.le_of_ble_eq_true rfl)⟩ 10 (ci := 5) rfl rfl [10, 11, 12, 13, 14, 4, 5] rfl rfl (Nat.le_of_ble_eq_true rfl) dX7_sure_51 ⟨(Nat.le_of_ble_eq_true rfl), (Nat.le_of_ble_eq_true rfl)⟩ rfl (fun r w1 H locs hQ V => ?_)
            rcases hQ with ⟨rfl, rfl⟩ | ⟨rfl, rfl⟩
            · have V : gW D T A s [(o, .inr (7, [.ref n0, .ref s0, .ref im, .ref iz, .ref rw, .ref t0, .ref u0, .ref h0, .ref y0, sv])), (rw, .inl (T 5, 4, .inr (.inr (.inr (.inr (va_up (va_up (va_up (va_up (fun _ => none) 0 (some ra0)) 1 (some rb0)) 2 (some rc0)) 3 (some rd0))))))), (ra0, .inr (1, [.int rah, .int (nI raz), .ref ra1, .int (nI ras)])), (ra1, .inl (T 1, 40, .inr (.inl raf))), (rb0, .inr (1, [.int rbh, .int (nI rbz), .ref rb1, .int (nI rbs)])), (rb1, .inl (T 1, 40, .inr (.inl rbf))), (rc0, .inr (1, [.int rch, .int (nI rcz), .ref rc1, .int (nI rcs)])), (rc1, .inl (T 1, 40, .inr (.inl rcf))), (rd0, .inr (1, [.int rdh, .int (nI rdz), .ref rd1, .int (nI rds)])), (rd1, .inl (T 1, 40, .inr (.inl rdf))), (n0, .inr (5, [.int (nI nn), .int nm, .int nl, .int no, .int nu, .ref n1, .ref n2, .ref n3, .ref n4, .ref n5, .ref n6, .ref n7, .ref n8, .ref n9, .ref n10])), (n1, .inl (T 0, 10, .inl nf1)), (n2, .inl (T 0, 10, .inl nf2)), (n3, .inl (T 0, 10, .inl nf3)), (n9, .inl (T 0, 10, .inl nf9))] H locs := V _ [4, 0, 4, 0, 0, 0, 0] rfl rfl rfl (by decide +kernel) rfl
              show W p l e _ s m args below meth c H locs _ _ _ (F0 m 54 ls [.int (nI 1)])
              refine lv_if_eq (tgt := 78) hx hb dX7_sure_54 (by decide) (fun c => absurd (show (nI 1) = 0 from c) (by decide +kernel)) (fun _ => ?_)
              refine lv_iconst (v := (nI 1)) hx hb dX7_sure_57 (by decide +kernel) ?_
              refine lv_istore (lv' := [(5, .int (nI 1)), (6, .int (nI k27)), (4, .int x27_4), (3, .int (nI 0)), (0, .ref o), (1, .int (nI 1)), (2, .int pu)]) hx hb dX7_sure_58 hl (by decide) rfl (fun ls hl => ?_)
              refine lv_iload hx hb dX7_sure_60 (lv_at hl 2 rfl) ?_
              refine lv_iload_n hx hb dX7_sure_62 rfl (lv_at hl 6 rfl) ?_
              refine lv_if_eq (tgt := 71) hx hb dX7_sure_63 (by decide) (fun c_13 => ?_) (fun c_13 => ?_)
              · skip
                refine lv_iload hx hb dX7_sure_71 (lv_at hl 1 rfl) ?_
                refine lv_iconst (v := (-1)) hx hb dX7_sure_73 (by decide +kernel) ?_
                refine lv_ixor hx hb dX7_sure_74 ?_
                refine lv_iand hx hb dX7_sure_75 ?_
                refine lv_istore (lv' := [(4, .int (x27_4 &&& ((nI k27) ^^^ (-1)))), (5, .int (nI 1)), (6, .int (nI k27)), (3, .int (nI 0)), (0, .ref o), (1, .int (nI 1)), (2, .int pu)]) hx hb dX7_sure_76 hl (by decide) rfl (fun ls hl => ?_)
                refine lv_iinc (v := (nI (k27 + 1))) (lv' := [(6, .int (nI (k27 + 1))), (4, .int (x27_4 &&& ((nI k27) ^^^ (-1)))), (5, .int (nI 1)), (3, .int (nI 0)), (0, .ref o), (1, .int (nI 1)), (2, .int pu)]) hx hb dX7_sure_78 hl (k := 2) rfl (nI_1 _) (by decide) rfl (fun ls hl => ?_)
                refine lv_goto (tgt := 27) hx hb dX7_sure_81 (by decide) ?_
                exact ih_27 (k27 + 1) (nI 1) (x27_4 &&& ((nI k27) ^^^ (-1))) (by omega) (by omega) _ _ _ V (lv_sub hl [0, 2, 1, 3, 4, 5, 6] rfl)
              · skip
                refine lv_iload hx hb dX7_sure_66 (lv_at hl 1 rfl) ?_
                refine lv_goto (tgt := 75) hx hb dX7_sure_68 (by decide) ?_
                refine lv_iand hx hb dX7_sure_75 ?_
                refine lv_istore (lv' := [(4, .int (x27_4 &&& (nI k27))), (5, .int (nI 1)), (6, .int (nI k27)), (3, .int (nI 0)), (0, .ref o), (1, .int (nI 1)), (2, .int pu)]) hx hb dX7_sure_76 hl (by decide) rfl (fun ls hl => ?_)
                refine lv_iinc (v := (nI (k27 + 1))) (lv' := [(6, .int (nI (k27 + 1))), (4, .int (x27_4 &&& (nI k27))), (5, .int (nI 1)), (3, .int (nI 0)), (0, .ref o), (1, .int (nI 1)), (2, .int pu)]) hx hb dX7_sure_78 hl (k := 2) rfl (nI_1 _) (by decide) rfl (fun ls hl => ?_)
                refine lv_goto (tgt := 27) hx hb dX7_sure_81 (by decide) ?_
                exact ih_27 (k27 + 1) (nI 1) (x27_4 &&& (nI k27)) (by omega) (by omega) _ _ _ V (lv_sub hl [0, 2, 1, 3, 4, 5, 6] rfl)
            · have V : gW D T A s [(o, .inr (7, [.ref n0, .ref s0, .ref im, .ref iz, .ref rw, .ref t0, .ref u0, .ref h0, .ref y0, sv])), (rw, .inl (T 5, 4, .inr (.inr (.inr (.inr (va_up (va_up (va_up (va_up (fun _ => none) 0 (some ra0)) 1 (some rb0)) 2 (some rc0)) 3 (some rd0))))))), (ra0, .inr (1, [.int rah, .int (nI raz), .ref ra1, .int (nI ras)])), (ra1, .inl (T 1, 40, .inr (.inl raf))), (rb0, .inr (1, [.int rbh, .int (nI rbz), .ref rb1, .int (nI rbs)])), (rb1, .inl (T 1, 40, .inr (.inl rbf))), (rc0, .inr (1, [.int rch, .int (nI rcz), .ref rc1, .int (nI rcs)])), (rc1, .inl (T 1, 40, .inr (.inl rcf))), (rd0, .inr (1, [.int rdh, .int (nI rdz), .ref rd1, .int (nI rds)])), (rd1, .inl (T 1, 40, .inr (.inl rdf))), (n0, .inr (5, [.int (nI nn), .int nm, .int nl, .int no, .int nu, .ref n1, .ref n2, .ref n3, .ref n4, .ref n5, .ref n6, .ref n7, .ref n8, .ref n9, .ref n10])), (n1, .inl (T 0, 10, .inl nf1)), (n2, .inl (T 0, 10, .inl nf2)), (n3, .inl (T 0, 10, .inl nf3)), (n9, .inl (T 0, 10, .inl nf9))] H locs := V _ [4, 0, 4, 0, 0, 0, 0] rfl rfl rfl (by decide +kernel) rfl
              show W p l e _ s m args below meth c H locs _ _ _ (F0 m 54 ls [.int (nI 0)])
              refine lv_if_eq (tgt := 78) hx hb dX7_sure_54 (by decide) (fun _ => ?_) (fun c => absurd (show (nI 0) = 0 by decide +kernel) c)
              refine lv_iinc (v := (nI (k27 + 1))) (lv' := [(6, .int (nI (k27 + 1))), (5, .int x27_5), (4, .int x27_4), (3, .int (nI 0)), (0, .ref o), (1, .int (nI 1)), (2, .int pu)]) hx hb dX7_sure_78 hl (k := 0) rfl (nI_1 _) (by decide) rfl (fun ls hl => ?_)
              refine lv_goto (tgt := 27) hx hb dX7_sure_81 (by decide) ?_
              exact ih_27 (k27 + 1) x27_5 x27_4 (by omega) (by omega) _ _ _ V (lv_sub hl [0, 1, 2, 3, 4, 5, 6] rfl)
      exact L_10 _ 0 (nI 0) (nI (2 ^ nn - 1)) (by omega) (Nat.lt_succ_self _) _ _ _ V (lv_sub hl [0, 1, 2, 3, 4, 5, 6] rfl)
    · skip
      refine lv_istore_n (lv' := [(3, .int (nI 0)), (0, .ref o), (1, .int (nI 2)), (2, .int pu)]) hx hb dX7_sure_5 rfl hl (by decide) rfl (fun ls hl => ?_)
      refine lv_iload_n hx hb dX7_sure_6 rfl (lv_at hl 0 rfl) ?_
      refine lv_if_eq (tgt := 12) hx hb dX7_sure_7 (by decide) (fun _ => ?_) (fun c => absurd (show (nI 0) = 0 by decide +kernel) c)
      refine lv_aload_n hx hb dX7_sure_12 rfl (lv_at hl 1 rfl) ?_
      refine g_get hC V (ci := 7) uwX7 0 rfl rfl 0 (by decide) w_249 rfl rfl dX7_sure_13 ?_
      refine g_callVU (nA := 0) hC V hl.1 (s_everyone l D T n0 nn nm nl no nu n1 n2 n3 n4 n5 n6 n7 n8 n9 n10 (by first | assumption | omega)) w_682 w_463 w_464 w_3 w_465 (by decide +kernel) rfl ⟨(Nat.le_of_ble_eq_true rfl), (Nat.le_of_ble_eq_true rfl)⟩ 10 (ci := 5) rfl rfl [10] rfl rfl (Nat.le_of_ble_eq_true rfl) dX7_sure_16 ⟨(Nat.le_of_ble_eq_true rfl), (Nat.le_of_ble_eq_true rfl)⟩ rfl (fun r w1 H locs hQ V => ?_)
      obtain ⟨rfl, rfl⟩ := hQ
      have V : gW D T A s [(o, .inr (7, [.ref n0, .ref s0, .ref im, .ref iz, .ref rw, .ref t0, .ref u0, .ref h0, .ref y0, sv])), (rw, .inl (T 5, 4, .inr (.inr (.inr (.inr (va_up (va_up (va_up (va_up (fun _ => none) 0 (some ra0)) 1 (some rb0)) 2 (some rc0)) 3 (some rd0))))))), (ra0, .inr (1, [.int rah, .int (nI raz), .ref ra1, .int (nI ras)])), (ra1, .inl (T 1, 40, .inr (.inl raf))), (rb0, .inr (1, [.int rbh, .int (nI rbz), .ref rb1, .int (nI rbs)])), (rb1, .inl (T 1, 40, .inr (.inl rbf))), (rc0, .inr (1, [.int rch, .int (nI rcz), .ref rc1, .int (nI rcs)])), (rc1, .inl (T 1, 40, .inr (.inl rcf))), (rd0, .inr (1, [.int rdh, .int (nI rdz), .ref rd1, .int (nI rds)])), (rd1, .inl (T 1, 40, .inr (.inl rdf))), (n0, .inr (5, [.int (nI nn), .int nm, .int nl, .int no, .int nu, .ref n1, .ref n2, .ref n3, .ref n4, .ref n5, .ref n6, .ref n7, .ref n8, .ref n9, .ref n10])), (n1, .inl (T 0, 10, .inl nf1)), (n2, .inl (T 0, 10, .inl nf2)), (n3, .inl (T 0, 10, .inl nf3)), (n9, .inl (T 0, 10, .inl nf9))] H locs := V _ [10] rfl rfl rfl (by decide +kernel) rfl
      show W p l e _ s m args below meth c H locs _ _ _ (F0 m 19 ls [.int (nI (2 ^ nn - 1))])
      refine lv_istore (lv' := [(4, .int (nI (2 ^ nn - 1))), (3, .int (nI 0)), (0, .ref o), (1, .int (nI 2)), (2, .int pu)]) hx hb dX7_sure_19 hl (by decide) rfl (fun ls hl => ?_)
      refine lv_iconst (v := (nI 0)) hx hb dX7_sure_21 (by decide +kernel) ?_
      refine lv_istore (lv' := [(5, .int (nI 0)), (4, .int (nI (2 ^ nn - 1))), (3, .int (nI 0)), (0, .ref o), (1, .int (nI 2)), (2, .int pu)]) hx hb dX7_sure_22 hl (by decide) rfl (fun ls hl => ?_)
      refine lv_iconst (v := (nI 0)) hx hb dX7_sure_24 (by decide +kernel) ?_
      refine lv_istore (lv' := [(6, .int (nI 0)), (5, .int (nI 0)), (4, .int (nI (2 ^ nn - 1))), (3, .int (nI 0)), (0, .ref o), (1, .int (nI 2)), (2, .int pu)]) hx hb dX7_sure_25 hl (by decide) rfl (fun ls hl => ?_)
      have L_14 : ∀ (fu : Nat) (k27 : Nat) (x27_5 : Int32) (x27_4 : Int32), k27 ≤ 2 ^ nn → 2 ^ nn - k27 < fu → ∀ (H : Heap) (locs : List Loc) (ls : Array Slot), gW D T A s [(o, .inr (7, [.ref n0, .ref s0, .ref im, .ref iz, .ref rw, .ref t0, .ref u0, .ref h0, .ref y0, sv])), (rw, .inl (T 5, 4, .inr (.inr (.inr (.inr (va_up (va_up (va_up (va_up (fun _ => none) 0 (some ra0)) 1 (some rb0)) 2 (some rc0)) 3 (some rd0))))))), (ra0, .inr (1, [.int rah, .int (nI raz), .ref ra1, .int (nI ras)])), (ra1, .inl (T 1, 40, .inr (.inl raf))), (rb0, .inr (1, [.int rbh, .int (nI rbz), .ref rb1, .int (nI rbs)])), (rb1, .inl (T 1, 40, .inr (.inl rbf))), (rc0, .inr (1, [.int rch, .int (nI rcz), .ref rc1, .int (nI rcs)])), (rc1, .inl (T 1, 40, .inr (.inl rcf))), (rd0, .inr (1, [.int rdh, .int (nI rdz), .ref rd1, .int (nI rds)])), (rd1, .inl (T 1, 40, .inr (.inl rdf))), (n0, .inr (5, [.int (nI nn), .int nm, .int nl, .int no, .int nu, .ref n1, .ref n2, .ref n3, .ref n4, .ref n5, .ref n6, .ref n7, .ref n8, .ref n9, .ref n10])), (n1, .inl (T 0, 10, .inl nf1)), (n2, .inl (T 0, 10, .inl nf2)), (n3, .inl (T 0, 10, .inl nf3)), (n9, .inl (T 0, 10, .inl nf9))] H locs → lv_has ls 7 [(6, .int (nI k27)), (5, .int x27_5), (4, .int x27_4), (3, .int (nI 0)), (0, .ref o), (1, .int (nI 2)), (2, .int pu)] → W p l e (rmD 4 0 0) s m args below meth c H locs 0 0 (MQ below (gQ D A (q_x_sure T o row pu n0 s0 im iz rw t0 u0 h0 y0 sv ra0 rb0 rc0 rd0 rah raz ra1 ras raf rbh rbz rb1 rbs rbf rch rcz rc1 rcs rcf rdh rdz rd1 rds rdf nn nm nl no nu n1 n2 n3 n4 n5 n6 n7 n8 n9 n10 nf1 nf2 nf3 nf9)) args s 0 0 A) (F0 m 27 ls []) := by
        intro fu_27
        induction fu_27 with
        | zero => intro k27 x27_5 x27_4 hk27 hmu; exact absurd hmu (Nat.not_lt_zero _)
        | succ fu_27 ih_27 =>
          intro k27 x27_5 x27_4 hk27 hmu_27 H locs ls V hl
          refine lv_iload hx hb dX7_sure_27 (lv_at hl 0 rfl) ?_
          refine lv_aload_n hx hb dX7_sure_29 rfl (lv_at hl 4 rfl) ?_
          refine g_get hC V (ci := 7) uwX7 0 rfl rfl 0 (by decide) w_249 rfl rfl dX7_sure_30 ?_
          refine g_callVU (nA := 0) hC V hl.1 (s_everyone l D T n0 nn nm nl no nu n1 n2 n3 n4 n5 n6 n7 n8 n9 n10 (by first | assumption | omega)) w_682 w_463 w_464 w_3 w_465 (by decide +kernel) rfl ⟨(Nat.le_of_ble_eq_true rfl), (Nat.le_of_ble_eq_true rfl)⟩ 10 (ci := 5) rfl rfl [10] rfl rfl (Nat.le_of_ble_eq_true rfl) dX7_sure_33 ⟨(Nat.le_of_ble_eq_true rfl), (Nat.le_of_ble_eq_true rfl)⟩ rfl (fun r w1 H locs hQ V => ?_)
          obtain ⟨rfl, rfl⟩ := hQ
          have V : gW D T A s [(o, .inr (7, [.ref n0, .ref s0, .ref im, .ref iz, .ref rw, .ref t0, .ref u0, .ref h0, .ref y0, sv])), (rw, .inl (T 5, 4, .inr (.inr (.inr (.inr (va_up (va_up (va_up (va_up (fun _ => none) 0 (some ra0)) 1 (some rb0)) 2 (some rc0)) 3 (some rd0))))))), (ra0, .inr (1, [.int rah, .int (nI raz), .ref ra1, .int (nI ras)])), (ra1, .inl (T 1, 40, .inr (.inl raf))), (rb0, .inr (1, [.int rbh, .int (nI rbz), .ref rb1, .int (nI rbs)])), (rb1, .inl (T 1, 40, .inr (.inl rbf))), (rc0, .inr (1, [.int rch, .int (nI rcz), .ref rc1, .int (nI rcs)])), (rc1, .inl (T 1, 40, .inr (.inl rcf))), (rd0, .inr (1, [.int rdh, .int (nI rdz), .ref rd1, .int (nI rds)])), (rd1, .inl (T 1, 40, .inr (.inl rdf))), (n0, .inr (5, [.int (nI nn), .int nm, .int nl, .int no, .int nu, .ref n1, .ref n2, .ref n3, .ref n4, .ref n5, .ref n6, .ref n7, .ref n8, .ref n9, .ref n10])), (n1, .inl (T 0, 10, .inl nf1)), (n2, .inl (T 0, 10, .inl nf2)), (n3, .inl (T 0, 10, .inl nf3)), (n9, .inl (T 0, 10, .inl nf9))] H locs := V _ [10] rfl rfl rfl (by decide +kernel) rfl
          show W p l e _ s m args below meth c H locs _ _ _ (F0 m 36 ls [.int (nI (2 ^ nn - 1)), .int (nI k27)])
          refine lv_icmp_gt (tgt := 84) hx hb dX7_sure_36 (by decide) (fun c_15 => ?_) (fun c_15 => ?_)
          · skip
            have c_15 := b_lt (by omega) (by omega) c_15
            refine lv_iload hx hb dX7_sure_84 (lv_at hl 1 rfl) ?_
            refine lv_if_eq (tgt := 94) hx hb dX7_sure_86 (by decide) (fun c_16 => ?_) (fun c_16 => ?_)
            · skip
              refine lv_iconst (v := (nI 0)) hx hb dX7_sure_94 (by decide +kernel) ?_
              exact g_iret (Qr := (q_x_sure T o row pu n0 s0 im iz rw t0 u0 h0 y0 sv ra0 rb0 rc0 rd0 rah raz ra1 ras raf rbh rbz rb1 rbs rbf rch rcz rc1 rcs rcf rdh rdz rd1 rds rdf nn nm nl no nu n1 n2 n3 n4 n5 n6 n7 n8 n9 n10 nf1 nf2 nf3 nf9)) hC V ⟨(Nat.le_of_ble_eq_true rfl), (Nat.le_of_ble_eq_true rfl)⟩ ⟨(nI 0), rfl, rfl⟩ dX7_sure_95
            · skip
              refine lv_iload hx hb dX7_sure_89 (lv_at hl 2 rfl) ?_
              refine lv_goto (tgt := 95) hx hb dX7_sure_91 (by decide) ?_
              exact g_iret (Qr := (q_x_sure T o row pu n0 s0 im iz rw t0 u0 h0 y0 sv ra0 rb0 rc0 rd0 rah raz ra1 ras raf rbh rbz rb1 rbs rbf rch rcz rc1 rcs rcf rdh rdz rd1 rds rdf nn nm nl no nu n1 n2 n3 n4 n5 n6 n7 n8 n9 n10 nf1 nf2 nf3 nf9)) hC V ⟨(Nat.le_of_ble_eq_true rfl), (Nat.le_of_ble_eq_true rfl)⟩ ⟨x27_4, rfl, rfl⟩ dX7_sure_95
          · skip
            have c_15 := b_nlt (by omega) (by omega) c_15
            refine lv_aload_n hx hb dX7_sure_39 rfl (lv_at hl 4 rfl) ?_
            refine g_get hC V (ci := 7) uwX7 0 rfl rfl 0 (by decide) w_249 rfl rfl dX7_sure_40 ?_
            refine lv_aload_n hx hb dX7_sure_43 rfl (lv_at hl 4 rfl) ?_
            refine g_get hC V (ci := 7) uwX7 0 rfl rfl 4 (by decide) w_253 rfl rfl dX7_sure_44 ?_
            refine lv_iload_n hx hb dX7_sure_47 rfl (lv_at hl 5 rfl) ?_
            refine g_aald hC V 1 5 rfl rfl (vp_in_nI (by decide) (by decide)) (v := .ref rc0) (by rw [nI_clamp (by decide)]; rfl) dX7_sure_48 ?_
            refine lv_iload hx hb dX7_sure_49 (lv_at hl 0 rfl) ?_
            refine g_callVU (nA := 2) hC V hl.1 (s_comesAs l D T n0 rc0 (nI k27) nn nm nl no nu n1 n2 n3 n4 n5 n6 n7 n8 n9 n10 nf1 nf2 nf3 nf9 rch rcz rc1 rcs rcf (by first | assumption | omega)) w_787 w_788 w_789 w_3 w_790 (by decide +kernel) rfl ⟨(Nat.le_of_ble_eq_true rfl), (Nat.le_of_ble_eq_true rfl)⟩ 10 (ci := 5) rfl rfl [10, 11, 12, 13, 14, 6, 7] rfl rfl (Nat.le_of_ble_eq_true rfl) dX7_sure_51 ⟨(Nat.le_of_ble_eq_true rfl), (Nat.le_of_ble_eq_true rfl)⟩ rfl (fun r w1 H locs hQ V => ?_)
            rcases hQ with ⟨rfl, rfl⟩ | ⟨rfl, rfl⟩
            · have V : gW D T A s [(o, .inr (7, [.ref n0, .ref s0, .ref im, .ref iz, .ref rw, .ref t0, .ref u0, .ref h0, .ref y0, sv])), (rw, .inl (T 5, 4, .inr (.inr (.inr (.inr (va_up (va_up (va_up (va_up (fun _ => none) 0 (some ra0)) 1 (some rb0)) 2 (some rc0)) 3 (some rd0))))))), (ra0, .inr (1, [.int rah, .int (nI raz), .ref ra1, .int (nI ras)])), (ra1, .inl (T 1, 40, .inr (.inl raf))), (rb0, .inr (1, [.int rbh, .int (nI rbz), .ref rb1, .int (nI rbs)])), (rb1, .inl (T 1, 40, .inr (.inl rbf))), (rc0, .inr (1, [.int rch, .int (nI rcz), .ref rc1, .int (nI rcs)])), (rc1, .inl (T 1, 40, .inr (.inl rcf))), (rd0, .inr (1, [.int rdh, .int (nI rdz), .ref rd1, .int (nI rds)])), (rd1, .inl (T 1, 40, .inr (.inl rdf))), (n0, .inr (5, [.int (nI nn), .int nm, .int nl, .int no, .int nu, .ref n1, .ref n2, .ref n3, .ref n4, .ref n5, .ref n6, .ref n7, .ref n8, .ref n9, .ref n10])), (n1, .inl (T 0, 10, .inl nf1)), (n2, .inl (T 0, 10, .inl nf2)), (n3, .inl (T 0, 10, .inl nf3)), (n9, .inl (T 0, 10, .inl nf9))] H locs := V _ [6, 0, 2, 0, 0, 0, 0] rfl rfl rfl (by decide +kernel) rfl
              show W p l e _ s m args below meth c H locs _ _ _ (F0 m 54 ls [.int (nI 1)])
              refine lv_if_eq (tgt := 78) hx hb dX7_sure_54 (by decide) (fun c => absurd (show (nI 1) = 0 from c) (by decide +kernel)) (fun _ => ?_)
              refine lv_iconst (v := (nI 1)) hx hb dX7_sure_57 (by decide +kernel) ?_
              refine lv_istore (lv' := [(5, .int (nI 1)), (6, .int (nI k27)), (4, .int x27_4), (3, .int (nI 0)), (0, .ref o), (1, .int (nI 2)), (2, .int pu)]) hx hb dX7_sure_58 hl (by decide) rfl (fun ls hl => ?_)
              refine lv_iload hx hb dX7_sure_60 (lv_at hl 2 rfl) ?_
              refine lv_iload_n hx hb dX7_sure_62 rfl (lv_at hl 6 rfl) ?_
              refine lv_if_eq (tgt := 71) hx hb dX7_sure_63 (by decide) (fun c_17 => ?_) (fun c_17 => ?_)
              · skip
                refine lv_iload hx hb dX7_sure_71 (lv_at hl 1 rfl) ?_
                refine lv_iconst (v := (-1)) hx hb dX7_sure_73 (by decide +kernel) ?_
                refine lv_ixor hx hb dX7_sure_74 ?_
                refine lv_iand hx hb dX7_sure_75 ?_
                refine lv_istore (lv' := [(4, .int (x27_4 &&& ((nI k27) ^^^ (-1)))), (5, .int (nI 1)), (6, .int (nI k27)), (3, .int (nI 0)), (0, .ref o), (1, .int (nI 2)), (2, .int pu)]) hx hb dX7_sure_76 hl (by decide) rfl (fun ls hl => ?_)
                refine lv_iinc (v := (nI (k27 + 1))) (lv' := [(6, .int (nI (k27 + 1))), (4, .int (x27_4 &&& ((nI k27) ^^^ (-1)))), (5, .int (nI 1)), (3, .int (nI 0)), (0, .ref o), (1, .int (nI 2)), (2, .int pu)]) hx hb dX7_sure_78 hl (k := 2) rfl (nI_1 _) (by decide) rfl (fun ls hl => ?_)
                refine lv_goto (tgt := 27) hx hb dX7_sure_81 (by decide) ?_
                exact ih_27 (k27 + 1) (nI 1) (x27_4 &&& ((nI k27) ^^^ (-1))) (by omega) (by omega) _ _ _ V (lv_sub hl [0, 2, 1, 3, 4, 5, 6] rfl)
              · skip
                refine lv_iload hx hb dX7_sure_66 (lv_at hl 1 rfl) ?_
                refine lv_goto (tgt := 75) hx hb dX7_sure_68 (by decide) ?_
                refine lv_iand hx hb dX7_sure_75 ?_
                refine lv_istore (lv' := [(4, .int (x27_4 &&& (nI k27))), (5, .int (nI 1)), (6, .int (nI k27)), (3, .int (nI 0)), (0, .ref o), (1, .int (nI 2)), (2, .int pu)]) hx hb dX7_sure_76 hl (by decide) rfl (fun ls hl => ?_)
                refine lv_iinc (v := (nI (k27 + 1))) (lv' := [(6, .int (nI (k27 + 1))), (4, .int (x27_4 &&& (nI k27))), (5, .int (nI 1)), (3, .int (nI 0)), (0, .ref o), (1, .int (nI 2)), (2, .int pu)]) hx hb dX7_sure_78 hl (k := 2) rfl (nI_1 _) (by decide) rfl (fun ls hl => ?_)
                refine lv_goto (tgt := 27) hx hb dX7_sure_81 (by decide) ?_
                exact ih_27 (k27 + 1) (nI 1) (x27_4 &&& (nI k27)) (by omega) (by omega) _ _ _ V (lv_sub hl [0, 2, 1, 3, 4, 5, 6] rfl)
            · have V : gW D T A s [(o, .inr (7, [.ref n0, .ref s0, .ref im, .ref iz, .ref rw, .ref t0, .ref u0, .ref h0, .ref y0, sv])), (rw, .inl (T 5, 4, .inr (.inr (.inr (.inr (va_up (va_up (va_up (va_up (fun _ => none) 0 (some ra0)) 1 (some rb0)) 2 (some rc0)) 3 (some rd0))))))), (ra0, .inr (1, [.int rah, .int (nI raz), .ref ra1, .int (nI ras)])), (ra1, .inl (T 1, 40, .inr (.inl raf))), (rb0, .inr (1, [.int rbh, .int (nI rbz), .ref rb1, .int (nI rbs)])), (rb1, .inl (T 1, 40, .inr (.inl rbf))), (rc0, .inr (1, [.int rch, .int (nI rcz), .ref rc1, .int (nI rcs)])), (rc1, .inl (T 1, 40, .inr (.inl rcf))), (rd0, .inr (1, [.int rdh, .int (nI rdz), .ref rd1, .int (nI rds)])), (rd1, .inl (T 1, 40, .inr (.inl rdf))), (n0, .inr (5, [.int (nI nn), .int nm, .int nl, .int no, .int nu, .ref n1, .ref n2, .ref n3, .ref n4, .ref n5, .ref n6, .ref n7, .ref n8, .ref n9, .ref n10])), (n1, .inl (T 0, 10, .inl nf1)), (n2, .inl (T 0, 10, .inl nf2)), (n3, .inl (T 0, 10, .inl nf3)), (n9, .inl (T 0, 10, .inl nf9))] H locs := V _ [6, 0, 2, 0, 0, 0, 0] rfl rfl rfl (by decide +kernel) rfl
              show W p l e _ s m args below meth c H locs _ _ _ (F0 m 54 ls [.int (nI 0)])
              refine lv_if_eq (tgt := 78) hx hb dX7_sure_54 (by decide) (fun _ => ?_) (fun c => absurd (show (nI 0) = 0 by decide +kernel) c)
              refine lv_iinc (v := (nI (k27 + 1))) (lv' := [(6, .int (nI (k27 + 1))), (5, .int x27_5), (4, .int x27_4), (3, .int (nI 0)), (0, .ref o), (1, .int (nI 2)), (2, .int pu)]) hx hb dX7_sure_78 hl (k := 0) rfl (nI_1 _) (by decide) rfl (fun ls hl => ?_)
              refine lv_goto (tgt := 27) hx hb dX7_sure_81 (by decide) ?_
              exact ih_27 (k27 + 1) x27_5 x27_4 (by omega) (by omega) _ _ _ V (lv_sub hl [0, 1, 2, 3, 4, 5, 6] rfl)
      exact L_14 _ 0 (nI 0) (nI (2 ^ nn - 1)) (by omega) (Nat.lt_succ_self _) _ _ _ V (lv_sub hl [0, 1, 2, 3, 4, 5, 6] rfl)
    · skip
      refine lv_istore_n (lv' := [(3, .int (nI 0)), (0, .ref o), (1, .int (nI 3)), (2, .int pu)]) hx hb dX7_sure_5 rfl hl (by decide) rfl (fun ls hl => ?_)
      refine lv_iload_n hx hb dX7_sure_6 rfl (lv_at hl 0 rfl) ?_
      refine lv_if_eq (tgt := 12) hx hb dX7_sure_7 (by decide) (fun _ => ?_) (fun c => absurd (show (nI 0) = 0 by decide +kernel) c)
      refine lv_aload_n hx hb dX7_sure_12 rfl (lv_at hl 1 rfl) ?_
      refine g_get hC V (ci := 7) uwX7 0 rfl rfl 0 (by decide) w_249 rfl rfl dX7_sure_13 ?_
      refine g_callVU (nA := 0) hC V hl.1 (s_everyone l D T n0 nn nm nl no nu n1 n2 n3 n4 n5 n6 n7 n8 n9 n10 (by first | assumption | omega)) w_682 w_463 w_464 w_3 w_465 (by decide +kernel) rfl ⟨(Nat.le_of_ble_eq_true rfl), (Nat.le_of_ble_eq_true rfl)⟩ 10 (ci := 5) rfl rfl [10] rfl rfl (Nat.le_of_ble_eq_true rfl) dX7_sure_16 ⟨(Nat.le_of_ble_eq_true rfl), (Nat.le_of_ble_eq_true rfl)⟩ rfl (fun r w1 H locs hQ V => ?_)
      obtain ⟨rfl, rfl⟩ := hQ
      have V : gW D T A s [(o, .inr (7, [.ref n0, .ref s0, .ref im, .ref iz, .ref rw, .ref t0, .ref u0, .ref h0, .ref y0, sv])), (rw, .inl (T 5, 4, .inr (.inr (.inr (.inr (va_up (va_up (va_up (va_up (fun _ => none) 0 (some ra0)) 1 (some rb0)) 2 (some rc0)) 3 (some rd0))))))), (ra0, .inr (1, [.int rah, .int (nI raz), .ref ra1, .int (nI ras)])), (ra1, .inl (T 1, 40, .inr (.inl raf))), (rb0, .inr (1, [.int rbh, .int (nI rbz), .ref rb1, .int (nI rbs)])), (rb1, .inl (T 1, 40, .inr (.inl rbf))), (rc0, .inr (1, [.int rch, .int (nI rcz), .ref rc1, .int (nI rcs)])), (rc1, .inl (T 1, 40, .inr (.inl rcf))), (rd0, .inr (1, [.int rdh, .int (nI rdz), .ref rd1, .int (nI rds)])), (rd1, .inl (T 1, 40, .inr (.inl rdf))), (n0, .inr (5, [.int (nI nn), .int nm, .int nl, .int no, .int nu, .ref n1, .ref n2, .ref n3, .ref n4, .ref n5, .ref n6, .ref n7, .ref n8, .ref n9, .ref n10])), (n1, .inl (T 0, 10, .inl nf1)), (n2, .inl (T 0, 10, .inl nf2)), (n3, .inl (T 0, 10, .inl nf3)), (n9, .inl (T 0, 10, .inl nf9))] H locs := V _ [10] rfl rfl rfl (by decide +kernel) rfl
      show W p l e _ s m args below meth c H locs _ _ _ (F0 m 19 ls [.int (nI (2 ^ nn - 1))])
      refine lv_istore (lv' := [(4, .int (nI (2 ^ nn - 1))), (3, .int (nI 0)), (0, .ref o), (1, .int (nI 3)), (2, .int pu)]) hx hb dX7_sure_19 hl (by decide) rfl (fun ls hl => ?_)
      refine lv_iconst (v := (nI 0)) hx hb dX7_sure_21 (by decide +kernel) ?_
      refine lv_istore (lv' := [(5, .int (nI 0)), (4, .int (nI (2 ^ nn - 1))), (3, .int (nI 0)), (0, .ref o), (1, .int (nI 3)), (2, .int pu)]) hx hb dX7_sure_22 hl (by decide) rfl (fun ls hl => ?_)
      refine lv_iconst (v := (nI 0)) hx hb dX7_sure_24 (by decide +kernel) ?_
      refine lv_istore (lv' := [(6, .int (nI 0)), (5, .int (nI 0)), (4, .int (nI (2 ^ nn - 1))), (3, .int (nI 0)), (0, .ref o), (1, .int (nI 3)), (2, .int pu)]) hx hb dX7_sure_25 hl (by decide) rfl (fun ls hl => ?_)
      have L_18 : ∀ (fu : Nat) (k27 : Nat) (x27_5 : Int32) (x27_4 : Int32), k27 ≤ 2 ^ nn → 2 ^ nn - k27 < fu → ∀ (H : Heap) (locs : List Loc) (ls : Array Slot), gW D T A s [(o, .inr (7, [.ref n0, .ref s0, .ref im, .ref iz, .ref rw, .ref t0, .ref u0, .ref h0, .ref y0, sv])), (rw, .inl (T 5, 4, .inr (.inr (.inr (.inr (va_up (va_up (va_up (va_up (fun _ => none) 0 (some ra0)) 1 (some rb0)) 2 (some rc0)) 3 (some rd0))))))), (ra0, .inr (1, [.int rah, .int (nI raz), .ref ra1, .int (nI ras)])), (ra1, .inl (T 1, 40, .inr (.inl raf))), (rb0, .inr (1, [.int rbh, .int (nI rbz), .ref rb1, .int (nI rbs)])), (rb1, .inl (T 1, 40, .inr (.inl rbf))), (rc0, .inr (1, [.int rch, .int (nI rcz), .ref rc1, .int (nI rcs)])), (rc1, .inl (T 1, 40, .inr (.inl rcf))), (rd0, .inr (1, [.int rdh, .int (nI rdz), .ref rd1, .int (nI rds)])), (rd1, .inl (T 1, 40, .inr (.inl rdf))), (n0, .inr (5, [.int (nI nn), .int nm, .int nl, .int no, .int nu, .ref n1, .ref n2, .ref n3, .ref n4, .ref n5, .ref n6, .ref n7, .ref n8, .ref n9, .ref n10])), (n1, .inl (T 0, 10, .inl nf1)), (n2, .inl (T 0, 10, .inl nf2)), (n3, .inl (T 0, 10, .inl nf3)), (n9, .inl (T 0, 10, .inl nf9))] H locs → lv_has ls 7 [(6, .int (nI k27)), (5, .int x27_5), (4, .int x27_4), (3, .int (nI 0)), (0, .ref o), (1, .int (nI 3)), (2, .int pu)] → W p l e (rmD 4 0 0) s m args below meth c H locs 0 0 (MQ below (gQ D A (q_x_sure T o row pu n0 s0 im iz rw t0 u0 h0 y0 sv ra0 rb0 rc0 rd0 rah raz ra1 ras raf rbh rbz rb1 rbs rbf rch rcz rc1 rcs rcf rdh rdz rd1 rds rdf nn nm nl no nu n1 n2 n3 n4 n5 n6 n7 n8 n9 n10 nf1 nf2 nf3 nf9)) args s 0 0 A) (F0 m 27 ls []) := by
        intro fu_27
        induction fu_27 with
        | zero => intro k27 x27_5 x27_4 hk27 hmu; exact absurd hmu (Nat.not_lt_zero _)
        | succ fu_27 ih_27 =>
          intro k27 x27_5 x27_4 hk27 hmu_27 H locs ls V hl
          refine lv_iload hx hb dX7_sure_27 (lv_at hl 0 rfl) ?_
          refine lv_aload_n hx hb dX7_sure_29 rfl (lv_at hl 4 rfl) ?_
          refine g_get hC V (ci := 7) uwX7 0 rfl rfl 0 (by decide) w_249 rfl rfl dX7_sure_30 ?_
          refine g_callVU (nA := 0) hC V hl.1 (s_everyone l D T n0 nn nm nl no nu n1 n2 n3 n4 n5 n6 n7 n8 n9 n10 (by first | assumption | omega)) w_682 w_463 w_464 w_3 w_465 (by decide +kernel) rfl ⟨(Nat.le_of_ble_eq_true rfl), (Nat.le_of_ble_eq_true rfl)⟩ 10 (ci := 5) rfl rfl [10] rfl rfl (Nat.le_of_ble_eq_true rfl) dX7_sure_33 ⟨(Nat.le_of_ble_eq_true rfl), (Nat.le_of_ble_eq_true rfl)⟩ rfl (fun r w1 H locs hQ V => ?_)
          obtain ⟨rfl, rfl⟩ := hQ
          have V : gW D T A s [(o, .inr (7, [.ref n0, .ref s0, .ref im, .ref iz, .ref rw, .ref t0, .ref u0, .ref h0, .ref y0, sv])), (rw, .inl (T 5, 4, .inr (.inr (.inr (.inr (va_up (va_up (va_up (va_up (fun _ => none) 0 (some ra0)) 1 (some rb0)) 2 (some rc0)) 3 (some rd0))))))), (ra0, .inr (1, [.int rah, .int (nI raz), .ref ra1, .int (nI ras)])), (ra1, .inl (T 1, 40, .inr (.inl raf))), (rb0, .inr (1, [.int rbh, .int (nI rbz), .ref rb1, .int (nI rbs)])), (rb1, .inl (T 1, 40, .inr (.inl rbf))), (rc0, .inr (1, [.int rch, .int (nI rcz), .ref rc1, .int (nI rcs)])), (rc1, .inl (T 1, 40, .inr (.inl rcf))), (rd0, .inr (1, [.int rdh, .int (nI rdz), .ref rd1, .int (nI rds)])), (rd1, .inl (T 1, 40, .inr (.inl rdf))), (n0, .inr (5, [.int (nI nn), .int nm, .int nl, .int no, .int nu, .ref n1, .ref n2, .ref n3, .ref n4, .ref n5, .ref n6, .ref n7, .ref n8, .ref n9, .ref n10])), (n1, .inl (T 0, 10, .inl nf1)), (n2, .inl (T 0, 10, .inl nf2)), (n3, .inl (T 0, 10, .inl nf3)), (n9, .inl (T 0, 10, .inl nf9))] H locs := V _ [10] rfl rfl rfl (by decide +kernel) rfl
          show W p l e _ s m args below meth c H locs _ _ _ (F0 m 36 ls [.int (nI (2 ^ nn - 1)), .int (nI k27)])
          refine lv_icmp_gt (tgt := 84) hx hb dX7_sure_36 (by decide) (fun c_19 => ?_) (fun c_19 => ?_)
          · skip
            have c_19 := b_lt (by omega) (by omega) c_19
            refine lv_iload hx hb dX7_sure_84 (lv_at hl 1 rfl) ?_
            refine lv_if_eq (tgt := 94) hx hb dX7_sure_86 (by decide) (fun c_20 => ?_) (fun c_20 => ?_)
            · skip
              refine lv_iconst (v := (nI 0)) hx hb dX7_sure_94 (by decide +kernel) ?_
              exact g_iret (Qr := (q_x_sure T o row pu n0 s0 im iz rw t0 u0 h0 y0 sv ra0 rb0 rc0 rd0 rah raz ra1 ras raf rbh rbz rb1 rbs rbf rch rcz rc1 rcs rcf rdh rdz rd1 rds rdf nn nm nl no nu n1 n2 n3 n4 n5 n6 n7 n8 n9 n10 nf1 nf2 nf3 nf9)) hC V ⟨(Nat.le_of_ble_eq_true rfl), (Nat.le_of_ble_eq_true rfl)⟩ ⟨(nI 0), rfl, rfl⟩ dX7_sure_95
            · skip
              refine lv_iload hx hb dX7_sure_89 (lv_at hl 2 rfl) ?_
              refine lv_goto (tgt := 95) hx hb dX7_sure_91 (by decide) ?_
              exact g_iret (Qr := (q_x_sure T o row pu n0 s0 im iz rw t0 u0 h0 y0 sv ra0 rb0 rc0 rd0 rah raz ra1 ras raf rbh rbz rb1 rbs rbf rch rcz rc1 rcs rcf rdh rdz rd1 rds rdf nn nm nl no nu n1 n2 n3 n4 n5 n6 n7 n8 n9 n10 nf1 nf2 nf3 nf9)) hC V ⟨(Nat.le_of_ble_eq_true rfl), (Nat.le_of_ble_eq_true rfl)⟩ ⟨x27_4, rfl, rfl⟩ dX7_sure_95
          · skip
            have c_19 := b_nlt (by omega) (by omega) c_19
            refine lv_aload_n hx hb dX7_sure_39 rfl (lv_at hl 4 rfl) ?_
            refine g_get hC V (ci := 7) uwX7 0 rfl rfl 0 (by decide) w_249 rfl rfl dX7_sure_40 ?_
            refine lv_aload_n hx hb dX7_sure_43 rfl (lv_at hl 4 rfl) ?_
            refine g_get hC V (ci := 7) uwX7 0 rfl rfl 4 (by decide) w_253 rfl rfl dX7_sure_44 ?_
            refine lv_iload_n hx hb dX7_sure_47 rfl (lv_at hl 5 rfl) ?_
            refine g_aald hC V 1 5 rfl rfl (vp_in_nI (by decide) (by decide)) (v := .ref rd0) (by rw [nI_clamp (by decide)]; rfl) dX7_sure_48 ?_
            refine lv_iload hx hb dX7_sure_49 (lv_at hl 0 rfl) ?_
            refine g_callVU (nA := 2) hC V hl.1 (s_comesAs l D T n0 rd0 (nI k27) nn nm nl no nu n1 n2 n3 n4 n5 n6 n7 n8 n9 n10 nf1 nf2 nf3 nf9 rdh rdz rd1 rds rdf (by first | assumption | omega)) w_787 w_788 w_789 w_3 w_790 (by decide +kernel) rfl ⟨(Nat.le_of_ble_eq_true rfl), (Nat.le_of_ble_eq_true rfl)⟩ 10 (ci := 5) rfl rfl [10, 11, 12, 13, 14, 8, 9] rfl rfl (Nat.le_of_ble_eq_true rfl) dX7_sure_51 ⟨(Nat.le_of_ble_eq_true rfl), (Nat.le_of_ble_eq_true rfl)⟩ rfl (fun r w1 H locs hQ V => ?_)
            rcases hQ with ⟨rfl, rfl⟩ | ⟨rfl, rfl⟩
            · have V : gW D T A s [(o, .inr (7, [.ref n0, .ref s0, .ref im, .ref iz, .ref rw, .ref t0, .ref u0, .ref h0, .ref y0, sv])), (rw, .inl (T 5, 4, .inr (.inr (.inr (.inr (va_up (va_up (va_up (va_up (fun _ => none) 0 (some ra0)) 1 (some rb0)) 2 (some rc0)) 3 (some rd0))))))), (ra0, .inr (1, [.int rah, .int (nI raz), .ref ra1, .int (nI ras)])), (ra1, .inl (T 1, 40, .inr (.inl raf))), (rb0, .inr (1, [.int rbh, .int (nI rbz), .ref rb1, .int (nI rbs)])), (rb1, .inl (T 1, 40, .inr (.inl rbf))), (rc0, .inr (1, [.int rch, .int (nI rcz), .ref rc1, .int (nI rcs)])), (rc1, .inl (T 1, 40, .inr (.inl rcf))), (rd0, .inr (1, [.int rdh, .int (nI rdz), .ref rd1, .int (nI rds)])), (rd1, .inl (T 1, 40, .inr (.inl rdf))), (n0, .inr (5, [.int (nI nn), .int nm, .int nl, .int no, .int nu, .ref n1, .ref n2, .ref n3, .ref n4, .ref n5, .ref n6, .ref n7, .ref n8, .ref n9, .ref n10])), (n1, .inl (T 0, 10, .inl nf1)), (n2, .inl (T 0, 10, .inl nf2)), (n3, .inl (T 0, 10, .inl nf3)), (n9, .inl (T 0, 10, .inl nf9))] H locs := V _ [8, 0, 0, 0, 0, 0, 0] rfl rfl rfl (by decide +kernel) rfl
              show W p l e _ s m args below meth c H locs _ _ _ (F0 m 54 ls [.int (nI 1)])
              refine lv_if_eq (tgt := 78) hx hb dX7_sure_54 (by decide) (fun c => absurd (show (nI 1) = 0 from c) (by decide +kernel)) (fun _ => ?_)
              refine lv_iconst (v := (nI 1)) hx hb dX7_sure_57 (by decide +kernel) ?_
              refine lv_istore (lv' := [(5, .int (nI 1)), (6, .int (nI k27)), (4, .int x27_4), (3, .int (nI 0)), (0, .ref o), (1, .int (nI 3)), (2, .int pu)]) hx hb dX7_sure_58 hl (by decide) rfl (fun ls hl => ?_)
              refine lv_iload hx hb dX7_sure_60 (lv_at hl 2 rfl) ?_
              refine lv_iload_n hx hb dX7_sure_62 rfl (lv_at hl 6 rfl) ?_
              refine lv_if_eq (tgt := 71) hx hb dX7_sure_63 (by decide) (fun c_21 => ?_) (fun c_21 => ?_)
              · skip
                refine lv_iload hx hb dX7_sure_71 (lv_at hl 1 rfl) ?_
                refine lv_iconst (v := (-1)) hx hb dX7_sure_73 (by decide +kernel) ?_
                refine lv_ixor hx hb dX7_sure_74 ?_
                refine lv_iand hx hb dX7_sure_75 ?_
                refine lv_istore (lv' := [(4, .int (x27_4 &&& ((nI k27) ^^^ (-1)))), (5, .int (nI 1)), (6, .int (nI k27)), (3, .int (nI 0)), (0, .ref o), (1, .int (nI 3)), (2, .int pu)]) hx hb dX7_sure_76 hl (by decide) rfl (fun ls hl => ?_)
                refine lv_iinc (v := (nI (k27 + 1))) (lv' := [(6, .int (nI (k27 + 1))), (4, .int (x27_4 &&& ((nI k27) ^^^ (-1)))), (5, .int (nI 1)), (3, .int (nI 0)), (0, .ref o), (1, .int (nI 3)), (2, .int pu)]) hx hb dX7_sure_78 hl (k := 2) rfl (nI_1 _) (by decide) rfl (fun ls hl => ?_)
                refine lv_goto (tgt := 27) hx hb dX7_sure_81 (by decide) ?_
                exact ih_27 (k27 + 1) (nI 1) (x27_4 &&& ((nI k27) ^^^ (-1))) (by omega) (by omega) _ _ _ V (lv_sub hl [0, 2, 1, 3, 4, 5, 6] rfl)
              · skip
                refine lv_iload hx hb dX7_sure_66 (lv_at hl 1 rfl) ?_
                refine lv_goto (tgt := 75) hx hb dX7_sure_68 (by decide) ?_
                refine lv_iand hx hb dX7_sure_75 ?_
                refine lv_istore (lv' := [(4, .int (x27_4 &&& (nI k27))), (5, .int (nI 1)), (6, .int (nI k27)), (3, .int (nI 0)), (0, .ref o), (1, .int (nI 3)), (2, .int pu)]) hx hb dX7_sure_76 hl (by decide) rfl (fun ls hl => ?_)
                refine lv_iinc (v := (nI (k27 + 1))) (lv' := [(6, .int (nI (k27 + 1))), (4, .int (x27_4 &&& (nI k27))), (5, .int (nI 1)), (3, .int (nI 0)), (0, .ref o), (1, .int (nI 3)), (2, .int pu)]) hx hb dX7_sure_78 hl (k := 2) rfl (nI_1 _) (by decide) rfl (fun ls hl => ?_)
                refine lv_goto (tgt := 27) hx hb dX7_sure_81 (by decide) ?_
                exact ih_27 (k27 + 1) (nI 1) (x27_4 &&& (nI k27)) (by omega) (by omega) _ _ _ V (lv_sub hl [0, 2, 1, 3, 4, 5, 6] rfl)
            · have V : gW D T A s [(o, .inr (7, [.ref n0, .ref s0, .ref im, .ref iz, .ref rw, .ref t0, .ref u0, .ref h0, .ref y0, sv])), (rw, .inl (T 5, 4, .inr (.inr (.inr (.inr (va_up (va_up (va_up (va_up (fun _ => none) 0 (some ra0)) 1 (some rb0)) 2 (some rc0)) 3 (some rd0))))))), (ra0, .inr (1, [.int rah, .int (nI raz), .ref ra1, .int (nI ras)])), (ra1, .inl (T 1, 40, .inr (.inl raf))), (rb0, .inr (1, [.int rbh, .int (nI rbz), .ref rb1, .int (nI rbs)])), (rb1, .inl (T 1, 40, .inr (.inl rbf))), (rc0, .inr (1, [.int rch, .int (nI rcz), .ref rc1, .int (nI rcs)])), (rc1, .inl (T 1, 40, .inr (.inl rcf))), (rd0, .inr (1, [.int rdh, .int (nI rdz), .ref rd1, .int (nI rds)])), (rd1, .inl (T 1, 40, .inr (.inl rdf))), (n0, .inr (5, [.int (nI nn), .int nm, .int nl, .int no, .int nu, .ref n1, .ref n2, .ref n3, .ref n4, .ref n5, .ref n6, .ref n7, .ref n8, .ref n9, .ref n10])), (n1, .inl (T 0, 10, .inl nf1)), (n2, .inl (T 0, 10, .inl nf2)), (n3, .inl (T 0, 10, .inl nf3)), (n9, .inl (T 0, 10, .inl nf9))] H locs := V _ [8, 0, 0, 0, 0, 0, 0] rfl rfl rfl (by decide +kernel) rfl
              show W p l e _ s m args below meth c H locs _ _ _ (F0 m 54 ls [.int (nI 0)])
              refine lv_if_eq (tgt := 78) hx hb dX7_sure_54 (by decide) (fun _ => ?_) (fun c => absurd (show (nI 0) = 0 by decide +kernel) c)
              refine lv_iinc (v := (nI (k27 + 1))) (lv' := [(6, .int (nI (k27 + 1))), (5, .int x27_5), (4, .int x27_4), (3, .int (nI 0)), (0, .ref o), (1, .int (nI 3)), (2, .int pu)]) hx hb dX7_sure_78 hl (k := 0) rfl (nI_1 _) (by decide) rfl (fun ls hl => ?_)
              refine lv_goto (tgt := 27) hx hb dX7_sure_81 (by decide) ?_
              exact ih_27 (k27 + 1) x27_5 x27_4 (by omega) (by omega) _ _ _ V (lv_sub hl [0, 1, 2, 3, 4, 5, 6] rfl)
      exact L_18 _ 0 (nI 0) (nI (2 ^ nn - 1)) (by omega) (Nat.lt_succ_self _) _ _ _ V (lv_sub hl [0, 1, 2, 3, 4, 5, 6] rfl)
  · have V : gW D T A s [(o, .inr (7, [.ref n0, .ref s0, .ref im, .ref iz, .ref rw, .ref t0, .ref u0, .ref h0, .ref y0, sv])), (rw, .inl (T 5, 4, .inr (.inr (.inr (.inr (va_up (va_up (va_up (va_up (fun _ => none) 0 (some ra0)) 1 (some rb0)) 2 (some rc0)) 3 (some rd0))))))), (ra0, .inr (1, [.int rah, .int (nI raz), .ref ra1, .int (nI ras)])), (ra1, .inl (T 1, 40, .inr (.inl raf))), (rb0, .inr (1, [.int rbh, .int (nI rbz), .ref rb1, .int (nI rbs)])), (rb1, .inl (T 1, 40, .inr (.inl rbf))), (rc0, .inr (1, [.int rch, .int (nI rcz), .ref rc1, .int (nI rcs)])), (rc1, .inl (T 1, 40, .inr (.inl rcf))), (rd0, .inr (1, [.int rdh, .int (nI rdz), .ref rd1, .int (nI rds)])), (rd1, .inl (T 1, 40, .inr (.inl rdf))), (n0, .inr (5, [.int (nI nn), .int nm, .int nl, .int no, .int nu, .ref n1, .ref n2, .ref n3, .ref n4, .ref n5, .ref n6, .ref n7, .ref n8, .ref n9, .ref n10])), (n1, .inl (T 0, 10, .inl nf1)), (n2, .inl (T 0, 10, .inl nf2)), (n3, .inl (T 0, 10, .inl nf3)), (n9, .inl (T 0, 10, .inl nf9))] H locs := V _ [0, 0, 0, 0, 0, 0, 0, 0, 0, 0, 0] rfl rfl rfl (by decide +kernel) rfl
    show W p l e _ s m args below meth c H locs _ _ _ (F0 m 5 ls [.int z_3])
    refine lv_istore_n (lv' := [(3, .int z_3), (0, .ref o), (1, .int row), (2, .int pu)]) hx hb dX7_sure_5 rfl hl (by decide) rfl (fun ls hl => ?_)
    refine lv_iload_n hx hb dX7_sure_6 rfl (lv_at hl 0 rfl) ?_
    refine lv_if_eq (tgt := 12) hx hb dX7_sure_7 (by decide) (fun c_22 => ?_) (fun c_22 => ?_)
    · skip
      exact (absurd c_22 (by assumption) : False).elim
    · skip
      refine lv_iload_n hx hb dX7_sure_10 rfl (lv_at hl 0 rfl) ?_
      exact g_iret (Qr := (q_x_sure T o row pu n0 s0 im iz rw t0 u0 h0 y0 sv ra0 rb0 rc0 rd0 rah raz ra1 ras raf rbh rbz rb1 rbs rbf rch rcz rc1 rcs rcf rdh rdz rd1 rds rdf nn nm nl no nu n1 n2 n3 n4 n5 n6 n7 n8 n9 n10 nf1 nf2 nf3 nf9)) hC V ⟨(Nat.le_of_ble_eq_true rfl), (Nat.le_of_ble_eq_true rfl)⟩ ⟨z_3, rfl, rfl⟩ dX7_sure_11

def q_x_ropes (T : Nat → ClassId) (o : Nat) (wh : Int32) (n0 : Nat) (s0 : Nat) (im : Nat) (iz : Nat) (rw : Nat) (t0 : Nat) (u0 : Nat) (h0 : Nat) (y0 : Nat) (sv : Value) (ys : Int32) (y1 : Nat) (y2 : Nat) (yb : Nat → Int32) (yt : Nat → Int32) (nn : Nat) (nm : Int32) (nl : Int32) (no : Int32) (nu : Int32) (n1 : Nat) (n2 : Nat) (n3 : Nat) (n4 : Nat) (n5 : Nat) (n6 : Nat) (n7 : Nat) (n8 : Nat) (n9 : Nat) (n10 : Nat) (nf1 : Nat → Int32) (nf2 : Nat → Int32) : Option Value → va_W → Prop := fun rr ww => (∃ (z : Int32) (bs : Int32) (k1 : Nat → Int32) (k2 : Nat → Int32), rr = some (.int z) ∧ ww = [(o, .inr (7, [.ref n0, .ref s0, .ref im, .ref iz, .ref rw, .ref t0, .ref u0, .ref h0, .ref y0, sv])), (y0, .inr (0, [.int bs, .ref y1, .ref y2])), (y1, .inl (T 0, 7, .inl k1)), (y2, .inl (T 0, 7, .inl k2)), (n0, .inr (5, [.int (nI nn), .int nm, .int nl, .int no, .int nu, .ref n1, .ref n2, .ref n3, .ref n4, .ref n5, .ref n6, .ref n7, .ref n8, .ref n9, .ref n10])), (n1, .inl (T 0, 10, .inl nf1)), (n2, .inl (T 0, 10, .inl nf2))])
set_option maxHeartbeats 4000000 in
set_option maxRecDepth 100000 in
theorem x_ropes (l : Launch) (D : va_G) (T : Nat → ClassId) (o : Nat) (wh : Int32) (n0 : Nat) (s0 : Nat) (im : Nat) (iz : Nat) (rw : Nat) (t0 : Nat) (u0 : Nat) (h0 : Nat) (y0 : Nat) (sv : Value) (ys : Int32) (y1 : Nat) (y2 : Nat) (yb : Nat → Int32) (yt : Nat → Int32) (nn : Nat) (nm : Int32) (nl : Int32) (no : Int32) (nu : Int32) (n1 : Nat) (n2 : Nat) (n3 : Nat) (n4 : Nat) (n5 : Nat) (n6 : Nat) (n7 : Nat) (n8 : Nat) (n9 : Nat) (n10 : Nat) (nf1 : Nat → Int32) (nf2 : Nat → Int32) (h_n : nn ≤ 10) : Ct l yX7_ropes cX7_ropes 2 (some .int) 11 0 0 D T [.ref o, .int wh] [(o, .inr (7, [.ref n0, .ref s0, .ref im, .ref iz, .ref rw, .ref t0, .ref u0, .ref h0, .ref y0, sv])), (y0, .inr (0, [.int ys, .ref y1, .ref y2])), (y1, .inl (T 0, 7, .inl yb)), (y2, .inl (T 0, 7, .inl yt)), (n0, .inr (5, [.int (nI nn), .int nm, .int nl, .int no, .int nu, .ref n1, .ref n2, .ref n3, .ref n4, .ref n5, .ref n6, .ref n7, .ref n8, .ref n9, .ref n10])), (n1, .inl (T 0, 10, .inl nf1)), (n2, .inl (T 0, 10, .inl nf2))] (q_x_ropes T o wh n0 s0 im iz rw t0 u0 h0 y0 sv ys y1 y2 yb yt nn nm nl no nu n1 n2 n3 n4 n5 n6 n7 n8 n9 n10 nf1 nf2) := by
  refine Ct.of (cc := cX7_ropes) (maxL := 2) (ret := (some .int)) (by decide) (Nat.le_of_ble_eq_true rfl) ?_
  intro p e s m args below meth c A ls hC hnm V hl
  obtain ⟨hx, hb, hr, hml, hown, hts, hlocks⟩ := id hC
  generalize hH : s.heap = H at V ⊢
  clear hH
  have hl : lv_has ls 2 [(0, .ref o), (1, .int wh)] := hl
  generalize hlo : ([] : List Loc) = locs at V ⊢
  clear hlo
  refine lv_iload_n hx hb dX7_ropes_0 rfl (lv_at hl 1 rfl) ?_
  refine lv_if_eq (tgt := 21) hx hb dX7_ropes_1 (by decide) (fun c_1 => ?_) (fun c_1 => ?_)
  · skip
    refine lv_aload_n hx hb dX7_ropes_21 rfl (lv_at hl 0 rfl) ?_
    refine g_get hC V (ci := 7) uwX7 0 rfl rfl 0 (by decide) w_249 rfl rfl dX7_ropes_22 ?_
    refine g_get hC V (ci := 5) uwX5 4 rfl rfl 0 (by decide) w_38 rfl rfl dX7_ropes_25 ?_
    refine lv_bipush (v := (nI 7)) hx hb dX7_ropes_28 (by decide +kernel) ?_
    refine lv_icmp_le (tgt := 36) hx hb dX7_ropes_30 (by decide) (fun c_2 => ?_) (fun c_2 => ?_)
    · skip
      have c_2 := b_le (by omega) (by omega) c_2
      refine lv_aload_n hx hb dX7_ropes_36 rfl (lv_at hl 0 rfl) ?_
      refine g_get hC V (ci := 7) uwX7 0 rfl rfl 0 (by decide) w_249 rfl rfl dX7_ropes_37 ?_
      refine g_get hC V (ci := 5) uwX5 4 rfl rfl 0 (by decide) w_38 rfl rfl dX7_ropes_40 ?_
      refine lv_if_ne (tgt := 49) hx hb dX7_ropes_43 (by decide) (fun c_3 => ?_) (fun c_3 => ?_)
      · skip
        rw [show (0 : Int32) = nI 0 from rfl] at c_3
        have c_3 := b_ne (by omega) (by omega) c_3
        refine lv_aload_n hx hb dX7_ropes_49 rfl (lv_at hl 0 rfl) ?_
        refine g_get hC V (ci := 7) uwX7 0 rfl rfl 8 (by decide) w_257 rfl rfl dX7_ropes_50 ?_
        refine lv_aload_n hx hb dX7_ropes_53 rfl (lv_at hl 0 rfl) ?_
        refine g_get hC V (ci := 7) uwX7 0 rfl rfl 0 (by decide) w_249 rfl rfl dX7_ropes_54 ?_
        refine g_callVU (nA := 1) hC V hl.1 (y_seekBest l D T y0 n0 ys y1 y2 yb yt nn nm nl no nu n1 n2 n3 n4 n5 n6 n7 n8 n9 n10 nf1 nf2 (by first | assumption | omega)) w_799 w_800 w_801 w_7 w_802 (by decide +kernel) rfl ⟨(Nat.le_of_ble_eq_true rfl), (Nat.le_of_ble_eq_true rfl)⟩ 1 (ci := 0) rfl rfl [1, 2, 3, 4, 5, 6] rfl rfl (Nat.le_of_ble_eq_true rfl) dX7_ropes_57 ⟨(Nat.le_of_ble_eq_true rfl), (Nat.le_of_ble_eq_true rfl)⟩ rfl (fun r w1 H locs hQ V => ?_)
        obtain ⟨bs_4, g1_5, g2_6, rfl, rfl, f_7⟩ := hQ
        have V : gW D T A s [(o, .inr (7, [.ref n0, .ref s0, .ref im, .ref iz, .ref rw, .ref t0, .ref u0, .ref h0, .ref y0, sv])), (y0, .inr (0, [.int bs_4, .ref y1, .ref y2])), (y1, .inl (T 0, 7, .inl g1_5)), (y2, .inl (T 0, 7, .inl g2_6)), (n0, .inr (5, [.int (nI nn), .int nm, .int nl, .int no, .int nu, .ref n1, .ref n2, .ref n3, .ref n4, .ref n5, .ref n6, .ref n7, .ref n8, .ref n9, .ref n10])), (n1, .inl (T 0, 10, .inl nf1)), (n2, .inl (T 0, 10, .inl nf2))] H locs := V _ [1, 0, 0, 0, 0, 0] rfl rfl rfl (by decide +kernel) rfl
        show W p l e _ s m args below meth c H locs _ _ _ (F0 m 60 ls [])
        refine lv_iload_n hx hb dX7_ropes_60 rfl (lv_at hl 1 rfl) ?_
        refine lv_if_ne (tgt := 74) hx hb dX7_ropes_61 (by decide) (fun c_8 => ?_) (fun c_8 => ?_)
        · skip
          refine lv_aload_n hx hb dX7_ropes_74 rfl (lv_at hl 0 rfl) ?_
          refine g_get hC V (ci := 7) uwX7 0 rfl rfl 8 (by decide) w_257 rfl rfl dX7_ropes_75 ?_
          refine g_get hC V (ci := 0) uwX0 1 rfl rfl 1 (by decide) w_214 rfl rfl dX7_ropes_78 ?_
          refine lv_iload_n hx hb dX7_ropes_81 rfl (lv_at hl 1 rfl) ?_
          refine lv_bipush (v := (nI 10)) hx hb dX7_ropes_82 (by decide +kernel) ?_
          refine lv_isub hx hb dX7_ropes_84 ?_
          exact absurd (by assumption) ‹¬ wh = 0›
        · skip
          refine lv_aload_n hx hb dX7_ropes_64 rfl (lv_at hl 0 rfl) ?_
          refine g_get hC V (ci := 7) uwX7 0 rfl rfl 8 (by decide) w_257 rfl rfl dX7_ropes_65 ?_
          refine g_get hC V (ci := 0) uwX0 1 rfl rfl 0 (by decide) w_212 rfl rfl dX7_ropes_68 ?_
          refine lv_goto (tgt := 86) hx hb dX7_ropes_71 (by decide) ?_
          exact g_iret (Qr := (q_x_ropes T o wh n0 s0 im iz rw t0 u0 h0 y0 sv ys y1 y2 yb yt nn nm nl no nu n1 n2 n3 n4 n5 n6 n7 n8 n9 n10 nf1 nf2)) hC V ⟨(Nat.le_of_ble_eq_true rfl), (Nat.le_of_ble_eq_true rfl)⟩ ⟨bs_4, bs_4, g1_5, g2_6, rfl, rfl⟩ dX7_ropes_86
      · skip
        rw [show (0 : Int32) = nI 0 from rfl] at c_3
        have c_3 := b_eq (by omega) (by omega) c_3
        refine lv_bipush (v := (-5)) hx hb dX7_ropes_46 (by decide +kernel) ?_
        exact g_iret (Qr := (q_x_ropes T o wh n0 s0 im iz rw t0 u0 h0 y0 sv ys y1 y2 yb yt nn nm nl no nu n1 n2 n3 n4 n5 n6 n7 n8 n9 n10 nf1 nf2)) hC V ⟨(Nat.le_of_ble_eq_true rfl), (Nat.le_of_ble_eq_true rfl)⟩ ⟨(-5), ys, yb, yt, rfl, rfl⟩ dX7_ropes_48
    · skip
      have c_2 := b_nle (by omega) (by omega) c_2
      refine lv_bipush (v := (-4)) hx hb dX7_ropes_33 (by decide +kernel) ?_
      exact g_iret (Qr := (q_x_ropes T o wh n0 s0 im iz rw t0 u0 h0 y0 sv ys y1 y2 yb yt nn nm nl no nu n1 n2 n3 n4 n5 n6 n7 n8 n9 n10 nf1 nf2)) hC V ⟨(Nat.le_of_ble_eq_true rfl), (Nat.le_of_ble_eq_true rfl)⟩ ⟨(-4), ys, yb, yt, rfl, rfl⟩ dX7_ropes_35
  · skip
    refine lv_aload_n hx hb dX7_ropes_4 rfl (lv_at hl 0 rfl) ?_
    refine g_get hC V (ci := 7) uwX7 0 rfl rfl 0 (by decide) w_249 rfl rfl dX7_ropes_5 ?_
    refine lv_iload_n hx hb dX7_ropes_8 rfl (lv_at hl 1 rfl) ?_
    refine lv_bipush (v := (nI 10)) hx hb dX7_ropes_9 (by decide +kernel) ?_
    refine lv_isub hx hb dX7_ropes_11 ?_
    refine g_callVU (nA := 1) hC V hl.1 (s_isSmith l D T n0 (wh - (nI 10)) nn nm nl no nu n1 n2 n3 n4 n5 n6 n7 n8 n9 n10 (by first | assumption | omega)) w_425 w_426 w_427 w_3 w_428 (by decide +kernel) rfl ⟨(Nat.le_of_ble_eq_true rfl), (Nat.le_of_ble_eq_true rfl)⟩ 4 (ci := 5) rfl rfl [4] rfl rfl (Nat.le_of_ble_eq_true rfl) dX7_ropes_12 ⟨(Nat.le_of_ble_eq_true rfl), (Nat.le_of_ble_eq_true rfl)⟩ rfl (fun r w1 H locs hQ V => ?_)
    rcases hQ with ⟨j_9, rfl, rfl, f_10, f_11⟩ | ⟨rfl, rfl, f_12⟩
    · have V : gW D T A s [(o, .inr (7, [.ref n0, .ref s0, .ref im, .ref iz, .ref rw, .ref t0, .ref u0, .ref h0, .ref y0, sv])), (y0, .inr (0, [.int ys, .ref y1, .ref y2])), (y1, .inl (T 0, 7, .inl yb)), (y2, .inl (T 0, 7, .inl yt)), (n0, .inr (5, [.int (nI nn), .int nm, .int nl, .int no, .int nu, .ref n1, .ref n2, .ref n3, .ref n4, .ref n5, .ref n6, .ref n7, .ref n8, .ref n9, .ref n10])), (n1, .inl (T 0, 10, .inl nf1)), (n2, .inl (T 0, 10, .inl nf2))] H locs := V _ [4] rfl rfl rfl (by decide +kernel) rfl
      show W p l e _ s m args below meth c H locs _ _ _ (F0 m 15 ls [.int (nI 1)])
      refine lv_if_ne (tgt := 21) hx hb dX7_ropes_15 (by decide) (fun _ => ?_) (fun c => absurd (show (nI 1) = 0 from c) (by decide +kernel))
      refine lv_aload_n hx hb dX7_ropes_21 rfl (lv_at hl 0 rfl) ?_
      refine g_get hC V (ci := 7) uwX7 0 rfl rfl 0 (by decide) w_249 rfl rfl dX7_ropes_22 ?_
      refine g_get hC V (ci := 5) uwX5 4 rfl rfl 0 (by decide) w_38 rfl rfl dX7_ropes_25 ?_
      refine lv_bipush (v := (nI 7)) hx hb dX7_ropes_28 (by decide +kernel) ?_
      refine lv_icmp_le (tgt := 36) hx hb dX7_ropes_30 (by decide) (fun c_13 => ?_) (fun c_13 => ?_)
      · skip
        have c_13 := b_le (by omega) (by omega) c_13
        refine lv_aload_n hx hb dX7_ropes_36 rfl (lv_at hl 0 rfl) ?_
        refine g_get hC V (ci := 7) uwX7 0 rfl rfl 0 (by decide) w_249 rfl rfl dX7_ropes_37 ?_
        refine g_get hC V (ci := 5) uwX5 4 rfl rfl 0 (by decide) w_38 rfl rfl dX7_ropes_40 ?_
        refine lv_if_ne (tgt := 49) hx hb dX7_ropes_43 (by decide) (fun c_14 => ?_) (fun c_14 => ?_)
        · skip
          rw [show (0 : Int32) = nI 0 from rfl] at c_14
          have c_14 := b_ne (by omega) (by omega) c_14
          refine lv_aload_n hx hb dX7_ropes_49 rfl (lv_at hl 0 rfl) ?_
          refine g_get hC V (ci := 7) uwX7 0 rfl rfl 8 (by decide) w_257 rfl rfl dX7_ropes_50 ?_
          refine lv_aload_n hx hb dX7_ropes_53 rfl (lv_at hl 0 rfl) ?_
          refine g_get hC V (ci := 7) uwX7 0 rfl rfl 0 (by decide) w_249 rfl rfl dX7_ropes_54 ?_
          refine g_callVU (nA := 1) hC V hl.1 (y_seekBest l D T y0 n0 ys y1 y2 yb yt nn nm nl no nu n1 n2 n3 n4 n5 n6 n7 n8 n9 n10 nf1 nf2 (by first | assumption | omega)) w_799 w_800 w_801 w_7 w_802 (by decide +kernel) rfl ⟨(Nat.le_of_ble_eq_true rfl), (Nat.le_of_ble_eq_true rfl)⟩ 1 (ci := 0) rfl rfl [1, 2, 3, 4, 5, 6] rfl rfl (Nat.le_of_ble_eq_true rfl) dX7_ropes_57 ⟨(Nat.le_of_ble_eq_true rfl), (Nat.le_of_ble_eq_true rfl)⟩ rfl (fun r w1 H locs hQ V => ?_)
          obtain ⟨bs_15, g1_16, g2_17, rfl, rfl, f_18⟩ := hQ
          have V : gW D T A s [(o, .inr (7, [.ref n0, .ref s0, .ref im, .ref iz, .ref rw, .ref t0, .ref u0, .ref h0, .ref y0, sv])), (y0, .inr (0, [.int bs_15, .ref y1, .ref y2])), (y1, .inl (T 0, 7, .inl g1_16)), (y2, .inl (T 0, 7, .inl g2_17)), (n0, .inr (5, [.int (nI nn), .int nm, .int nl, .int no, .int nu, .ref n1, .ref n2, .ref n3, .ref n4, .ref n5, .ref n6, .ref n7, .ref n8, .ref n9, .ref n10])), (n1, .inl (T 0, 10, .inl nf1)), (n2, .inl (T 0, 10, .inl nf2))] H locs := V _ [1, 0, 0, 0, 0, 0] rfl rfl rfl (by decide +kernel) rfl
          show W p l e _ s m args below meth c H locs _ _ _ (F0 m 60 ls [])
          refine lv_iload_n hx hb dX7_ropes_60 rfl (lv_at hl 1 rfl) ?_
          refine lv_if_ne (tgt := 74) hx hb dX7_ropes_61 (by decide) (fun c_19 => ?_) (fun c_19 => ?_)
          · skip
            refine lv_aload_n hx hb dX7_ropes_74 rfl (lv_at hl 0 rfl) ?_
            refine g_get hC V (ci := 7) uwX7 0 rfl rfl 8 (by decide) w_257 rfl rfl dX7_ropes_75 ?_
            refine g_get hC V (ci := 0) uwX0 1 rfl rfl 1 (by decide) w_214 rfl rfl dX7_ropes_78 ?_
            refine lv_iload_n hx hb dX7_ropes_81 rfl (lv_at hl 1 rfl) ?_
            refine lv_bipush (v := (nI 10)) hx hb dX7_ropes_82 (by decide +kernel) ?_
            refine lv_isub hx hb dX7_ropes_84 ?_
            refine g_vi (y := nI j_9) f_10 ?_
            refine g_iald hC V 2 rfl (vp_in_nI (by omega) (by omega)) (v := (g1_16 j_9)) (congrArg _ (nI_clamp (by omega))) dX7_ropes_85 ?_
            exact g_iret (Qr := (q_x_ropes T o wh n0 s0 im iz rw t0 u0 h0 y0 sv ys y1 y2 yb yt nn nm nl no nu n1 n2 n3 n4 n5 n6 n7 n8 n9 n10 nf1 nf2)) hC V ⟨(Nat.le_of_ble_eq_true rfl), (Nat.le_of_ble_eq_true rfl)⟩ ⟨(g1_16 j_9), bs_15, g1_16, g2_17, rfl, rfl⟩ dX7_ropes_86
          · skip
            refine lv_aload_n hx hb dX7_ropes_64 rfl (lv_at hl 0 rfl) ?_
            refine g_get hC V (ci := 7) uwX7 0 rfl rfl 8 (by decide) w_257 rfl rfl dX7_ropes_65 ?_
            refine g_get hC V (ci := 0) uwX0 1 rfl rfl 0 (by decide) w_212 rfl rfl dX7_ropes_68 ?_
            refine lv_goto (tgt := 86) hx hb dX7_ropes_71 (by decide) ?_
            exact g_iret (Qr := (q_x_ropes T o wh n0 s0 im iz rw t0 u0 h0 y0 sv ys y1 y2 yb yt nn nm nl no nu n1 n2 n3 n4 n5 n6 n7 n8 n9 n10 nf1 nf2)) hC V ⟨(Nat.le_of_ble_eq_true rfl), (Nat.le_of_ble_eq_true rfl)⟩ ⟨bs_15, bs_15, g1_16, g2_17, rfl, rfl⟩ dX7_ropes_86
        · skip
          rw [show (0 : Int32) = nI 0 from rfl] at c_14
          have c_14 := b_eq (by omega) (by omega) c_14
          refine lv_bipush (v := (-5)) hx hb dX7_ropes_46 (by decide +kernel) ?_
          exact g_iret (Qr := (q_x_ropes T o wh n0 s0 im iz rw t0 u0 h0 y0 sv ys y1 y2 yb yt nn nm nl no nu n1 n2 n3 n4 n5 n6 n7 n8 n9 n10 nf1 nf2)) hC V ⟨(Nat.le_of_ble_eq_true rfl), (Nat.le_of_ble_eq_true rfl)⟩ ⟨(-5), ys, yb, yt, rfl, rfl⟩ dX7_ropes_48
      · skip
        have c_13 := b_nle (by omega) (by omega) c_13
        refine lv_bipush (v := (-4)) hx hb dX7_ropes_33 (by decide +kernel) ?_
        exact g_iret (Qr := (q_x_ropes T o wh n0 s0 im iz rw t0 u0 h0 y0 sv ys y1 y2 yb yt nn nm nl no nu n1 n2 n3 n4 n5 n6 n7 n8 n9 n10 nf1 nf2)) hC V ⟨(Nat.le_of_ble_eq_true rfl), (Nat.le_of_ble_eq_true rfl)⟩ ⟨(-4), ys, yb, yt, rfl, rfl⟩ dX7_ropes_35
    · have V : gW D T A s [(o, .inr (7, [.ref n0, .ref s0, .ref im, .ref iz, .ref rw, .ref t0, .ref u0, .ref h0, .ref y0, sv])), (y0, .inr (0, [.int ys, .ref y1, .ref y2])), (y1, .inl (T 0, 7, .inl yb)), (y2, .inl (T 0, 7, .inl yt)), (n0, .inr (5, [.int (nI nn), .int nm, .int nl, .int no, .int nu, .ref n1, .ref n2, .ref n3, .ref n4, .ref n5, .ref n6, .ref n7, .ref n8, .ref n9, .ref n10])), (n1, .inl (T 0, 10, .inl nf1)), (n2, .inl (T 0, 10, .inl nf2))] H locs := V _ [4] rfl rfl rfl (by decide +kernel) rfl
      show W p l e _ s m args below meth c H locs _ _ _ (F0 m 15 ls [.int (nI 0)])
      refine lv_if_ne (tgt := 21) hx hb dX7_ropes_15 (by decide) (fun c => absurd (show (nI 0) = 0 by decide +kernel) c) (fun _ => ?_)
      refine lv_bipush (v := (-2)) hx hb dX7_ropes_18 (by decide +kernel) ?_
      exact g_iret (Qr := (q_x_ropes T o wh n0 s0 im iz rw t0 u0 h0 y0 sv ys y1 y2 yb yt nn nm nl no nu n1 n2 n3 n4 n5 n6 n7 n8 n9 n10 nf1 nf2)) hC V ⟨(Nat.le_of_ble_eq_true rfl), (Nat.le_of_ble_eq_true rfl)⟩ ⟨(-2), ys, yb, yt, rfl, rfl⟩ dX7_ropes_20
