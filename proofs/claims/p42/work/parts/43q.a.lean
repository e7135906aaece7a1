/-- what fault answers -/
def faultA (u l w : Int32) : Int32 := if w = nI 0 then u else if w = nI 1 then l else -1
theorem ft_0 {u l w : Int32} (h : w = nI 0) : u = faultA u l w := by unfold faultA; rw [if_pos h]
theorem ft_1 {u l w : Int32} (h0 : ¬ w = nI 0) (h : w = nI 1) : l = faultA u l w := by unfold faultA; rw [if_neg h0, if_pos h]
theorem ft_2 {u l w : Int32} (h0 : ¬ w = nI 0) (h : ¬ w = nI 1) : -1 = faultA u l w := by unfold faultA; rw [if_neg h0, if_neg h]
theorem rs_o {i a b : Int32} (h : i < 0 ∨ nI 2 ≤ i) : -2 = resWhy i a b := by unfold resWhy; rw [if_pos h]
theorem rs_in {i : Int32} {k : Nat} (h : i = nI k) (hk : k < 2) : ¬ (i < 0 ∨ nI 2 ≤ i) := by
  subst h
  rintro (h | h)
  · exact absurd h (nI_pos (by omega))
  · exact absurd (b_le (by decide) (by omega) h) (by omega)
theorem rs_5a {i a b : Int32} (e : i = nI 0) (h : a = 0) : -5 = resWhy i a b := by unfold resWhy; rw [if_neg (rs_in e (by decide)), if_pos (Or.inl ⟨e, h⟩)]
theorem rs_5b {i a b : Int32} (e : i = nI 1) (h : b = 0) : -5 = resWhy i a b := by unfold resWhy; rw [if_neg (rs_in e (by decide)), if_pos (Or.inr ⟨e, h⟩)]
theorem rs_01 : ¬ (nI 0 : Int32) = nI 1 := by decide +kernel
theorem rs_0a {i a b : Int32} (e : i = nI 0) (h : ¬ a = 0) : nI 0 = resWhy i a b := by unfold resWhy; rw [if_neg (rs_in e (by decide)), if_neg (fun q => q.elim (fun r => h r.2) (fun r => rs_01 (e.symm.trans r.1)))]
theorem rs_0b {i a b : Int32} (e : i = nI 1) (h : ¬ b = 0) : nI 0 = resWhy i a b := by unfold resWhy; rw [if_neg (rs_in e (by decide)), if_neg (fun q => q.elim (fun r => rs_01 (r.1.symm.trans e)) (fun r => h r.2))]
/-- which images are made behind image(i) -/
def imZ (i : Int32) (f : Nat → Int32) : Nat → Int32 := if i = nI 0 then upd f 0 (vp_nar .boolean (nI 1)) else if i = nI 1 then upd f 1 (vp_nar .boolean (nI 1)) else f
theorem iz_o {i : Int32} {f : Nat → Int32} (h : i < 0 ∨ nI 2 ≤ i) : f = imZ i f := by unfold imZ; rw [if_neg (fun e => rs_in e (by decide) h), if_neg (fun e => rs_in e (by decide) h)]
theorem iz_0 {i : Int32} {f : Nat → Int32} (e : i = nI 0) : upd f 0 (vp_nar .boolean (nI 1)) = imZ i f := by unfold imZ; rw [if_pos e]
theorem iz_1 {i : Int32} {f : Nat → Int32} (e : i = nI 1) : upd f 1 (vp_nar .boolean (nI 1)) = imZ i f := by unfold imZ; rw [if_neg (fun q => rs_01 (q.symm.trans e)), if_pos e]
theorem iz_law {i : Int32} {f g f2 g2 : Nat → Int32} (h0 : f 0 = g 0) (h1 : f 1 = g 1) (e1 : f2 = imZ i f) (e2 : g2 = imZ i g) : f2 0 = g2 0 ∧ f2 1 = g2 1 := by
  rw [e1, e2]
  unfold imZ
  split
  · rw [up_same, up_same, up_other (by decide), up_other (by decide)]; exact ⟨rfl, h1⟩
  · split
    · rw [up_same, up_same, up_other (by decide), up_other (by decide)]; exact ⟨h0, rfl⟩
    · exact ⟨h0, h1⟩

def q_x_fault_f (T : Nat → ClassId) (o : Nat) (wh : Int32) (n0 : Nat) (s0 : Nat) (im : Nat) (iz : Nat) (rw : Nat) (t0 : Nat) (u0 : Nat) (h0 : Nat) (y0 : Nat) (sv : Value) (tf : Nat) (tu : Int32) (tl : Int32) (t1 : Nat) (te : Int32) (tk : Int32) (tr : Int32) (tb : Int32) : Option Value → va_W → Prop := fun rr ww => (∃ (z : Int32), rr = some (.int z) ∧ ww = [(o, .inr (7, [.ref n0, .ref s0, .ref im, .ref iz, .ref rw, .ref t0, .ref u0, .ref h0, .ref y0, sv])), (t0, .inr (2, [.int (nI tf), .int tu, .int tl, .ref t1, .int te, .int tk, .int tr, .int tb]))] ∧ z = faultA tu tl wh)
set_option maxHeartbeats 4000000 in
set_option maxRecDepth 100000 in
theorem x_fault_f (l : Launch) (D : va_G) (T : Nat → ClassId) (o : Nat) (wh : Int32) (n0 : Nat) (s0 : Nat) (im : Nat) (iz : Nat) (rw : Nat) (t0 : Nat) (u0 : Nat) (h0 : Nat) (y0 : Nat) (sv : Value) (tf : Nat) (tu : Int32) (tl : Int32) (t1 : Nat) (te : Int32) (tk : Int32) (tr : Int32) (tb : Int32) : Ct l yX7_fault cX7_fault 2 (some .int) 0 0 0 D T [.ref o, .int wh] [(o, .inr (7, [.ref n0, .ref s0, .ref im, .ref iz, .ref rw, .ref t0, .ref u0, .ref h0, .ref y0, sv])), (t0, .inr (2, [.int (nI tf), .int tu, .int tl, .ref t1, .int te, .int tk, .int tr, .int tb]))] (q_x_fault_f T o wh n0 s0 im iz rw t0 u0 h0 y0 sv tf tu tl t1 te tk tr tb) := by
  refine Ct.of (cc := cX7_fault) (maxL := 2) (ret := (some .int)) (by decide) (Nat.le_of_ble_eq_true rfl) ?_
  intro p e s m args below meth c A ls hC hnm V hl
  obtain ⟨hx, hb, hr, hml, hown, hts, hlocks⟩ := id hC
  generalize hH : s.heap = H at V ⊢
  clear hH
  have hl : lv_has ls 2 [(0, .ref o), (1, .int wh)] := hl
  generalize hlo : ([] : List Loc) = locs at V ⊢
  clear hlo
  refine lv_iload_n hx hb dX7_fault_0 rfl (lv_at hl 1 rfl) ?_
  by_cases c_10 : wh = (nI 0)
  · skip
    refine lv_lookup (tgt := 28) (off := 27) hx hb dX7_fault_1 (by decide +kernel) (by rw [c_10]; decide +kernel) (by decide) ?_
    refine lv_aload_n hx hb dX7_fault_28 rfl (lv_at hl 0 rfl) ?_
    refine g_get hC V (ci := 7) uwX7 0 rfl rfl 5 (by decide) w_254 rfl rfl dX7_fault_29 ?_
    refine g_get hC V (ci := 2) uwX2 1 rfl rfl 1 (by decide) w_131 rfl rfl dX7_fault_32 ?_
    exact g_iret (Qr := (q_x_fault_f T o wh n0 s0 im iz rw t0 u0 h0 y0 sv tf tu tl t1 te tk tr tb)) hC V ⟨(Nat.le_of_ble_eq_true rfl), (Nat.le_of_ble_eq_true rfl)⟩ ⟨tu, rfl, rfl, (by first | exact ft_0 (by assumption) | exact ft_1 (by assumption) (by assumption) | exact ft_2 (by assumption) (by assumption))⟩ dX7_fault_35
  by_cases c_11 : wh = (nI 1)
  · skip
    refine lv_lookup (tgt := 36) (off := 35) hx hb dX7_fault_1 (by decide +kernel) (by rw [c_11]; decide +kernel) (by decide) ?_
    refine lv_aload_n hx hb dX7_fault_36 rfl (lv_at hl 0 rfl) ?_
    refine g_get hC V (ci := 7) uwX7 0 rfl rfl 5 (by decide) w_254 rfl rfl dX7_fault_37 ?_
    refine g_get hC V (ci := 2) uwX2 1 rfl rfl 2 (by decide) w_133 rfl rfl dX7_fault_40 ?_
    exact g_iret (Qr := (q_x_fault_f T o wh n0 s0 im iz rw t0 u0 h0 y0 sv tf tu tl t1 te tk tr tb)) hC V ⟨(Nat.le_of_ble_eq_true rfl), (Nat.le_of_ble_eq_true rfl)⟩ ⟨tl, rfl, rfl, (by first | exact ft_0 (by assumption) | exact ft_1 (by assumption) (by assumption) | exact ft_2 (by assumption) (by assumption))⟩ dX7_fault_43
  refine lv_lookup (tgt := 44) (off := 43) hx hb dX7_fault_1 (by decide +kernel) (by have h0 : ¬ (0 : Int) = (wh).toInt := fun h => c_10 (g_out2 h.symm (by decide +kernel)); have h1 : ¬ (1 : Int) = (wh).toInt := fun h => c_11 (g_out2 h.symm (by decide +kernel)); simp [Op.lookupswitch.offset, h0, h1]) (by decide) ?_
  refine lv_iconst (v := (-1)) hx hb dX7_fault_44 (by decide +kernel) ?_
  exact g_iret (Qr := (q_x_fault_f T o wh n0 s0 im iz rw t0 u0 h0 y0 sv tf tu tl t1 te tk tr tb)) hC V ⟨(Nat.le_of_ble_eq_true rfl), (Nat.le_of_ble_eq_true rfl)⟩ ⟨(-1), rfl, rfl, (by first | exact ft_0 (by assumption) | exact ft_1 (by assumption) (by assumption) | exact ft_2 (by assumption) (by assumption))⟩ dX7_fault_45

def q_m_fault_f (T : Nat → ClassId) (o : Nat) (wh : Int32) (w0 : Int32) (g1 : Nat) (g2 : Nat) (g3 : Nat) (g4 : Nat) (tp : Nat) (w6 : Int32) (w7 : Int32) (w8 : Int32) (w9 : Int32) (w10 : Int32) (w11 : Int32) (w12 : Int32) (w13 : Int32) (w14 : Int32) (g15 : Nat) (w16 : Int32) (g17 : Nat) (w18 : Int32) (w19 : Int32) (g20 : Nat) (w21 : Int32) (g22 : Nat) (g23 : Nat) (g24 : Nat) (w25 : Int32) (w26 : Int32) (w27 : Int32) (g28 : Nat) (g29 : Nat) (w30 : Int32) (g31 : Nat) (g32 : Nat) (g33 : Nat) : Option Value → va_W → Prop := fun rr ww => (∃ (z : Int32), rr = some (.int z) ∧ ww = [(o, .inr (8, [.int (nI 0), .ref g1, .ref g2, .ref g3, .ref g4, .int (nI tp), .int w6, .int w7, .int w8, .int w9, .int w10, .int w11, .int w12, .int w13, .int w14, .ref g15, .int w16, .ref g17, .int w18, .int w19, .ref g20, .int w21, .ref g22, .ref g23, .ref g24, .int w25, .int w26, .int w27, .ref g28, .ref g29, .int w30, .ref g31, .ref g32, .ref g33]))] ∧ z = faultA w13 w14 wh)
set_option maxHeartbeats 4000000 in
set_option maxRecDepth 100000 in
theorem m_fault_f (l : Launch) (D : va_G) (T : Nat → ClassId) (o : Nat) (wh : Int32) (w0 : Int32) (g1 : Nat) (g2 : Nat) (g3 : Nat) (g4 : Nat) (tp : Nat) (w6 : Int32) (w7 : Int32) (w8 : Int32) (w9 : Int32) (w10 : Int32) (w11 : Int32) (w12 : Int32) (w13 : Int32) (w14 : Int32) (g15 : Nat) (w16 : Int32) (g17 : Nat) (w18 : Int32) (w19 : Int32) (g20 : Nat) (w21 : Int32) (g22 : Nat) (g23 : Nat) (g24 : Nat) (w25 : Int32) (w26 : Int32) (w27 : Int32) (g28 : Nat) (g29 : Nat) (w30 : Int32) (g31 : Nat) (g32 : Nat) (g33 : Nat) : Ct l yX8_fault cX8_fault 2 (some .int) 0 0 0 D T [.ref o, .int wh] [(o, .inr (8, [.int w0, .ref g1, .ref g2, .ref g3, .ref g4, .int (nI tp), .int w6, .int w7, .int w8, .int w9, .int w10, .int w11, .int w12, .int w13, .int w14, .ref g15, .int w16, .ref g17, .int w18, .int w19, .ref g20, .int w21, .ref g22, .ref g23, .ref g24, .int w25, .int w26, .int w27, .ref g28, .ref g29, .int w30, .ref g31, .ref g32, .ref g33]))] (q_m_fault_f T o wh w0 g1 g2 g3 g4 tp w6 w7 w8 w9 w10 w11 w12 w13 w14 g15 w16 g17 w18 w19 g20 w21 g22 g23 g24 w25 w26 w27 g28 g29 w30 g31 g32 g33) := by
  refine Ct.of (cc := cX8_fault) (maxL := 2) (ret := (some .int)) (by decide) (Nat.le_of_ble_eq_true rfl) ?_
  intro p e s m args below meth c A ls hC hnm V hl
  obtain ⟨hx, hb, hr, hml, hown, hts, hlocks⟩ := id hC
  generalize hH : s.heap = H at V ⊢
  clear hH
  have hl : lv_has ls 2 [(0, .ref o), (1, .int wh)] := hl
  generalize hlo : ([] : List Loc) = locs at V ⊢
  clear hlo
  refine lv_aload_n hx hb dX8_fault_0 rfl (lv_at hl 0 rfl) ?_
  refine lv_iconst (v := (nI 0)) hx hb dX8_fault_1 (by decide +kernel) ?_
  refine g_put hC V (ci := 8) uwX8 tyX8 tyX8_ok nmX8 0 rfl rfl 0 (by decide) w_912 rfl rfl rfl rfl (Nat.le_of_ble_eq_true rfl) (ws' := [(o, .inr (8, [.int (nI 0), .ref g1, .ref g2, .ref g3, .ref g4, .int (nI tp), .int w6, .int w7, .int w8, .int w9, .int w10, .int w11, .int w12, .int w13, .int w14, .ref g15, .int w16, .ref g17, .int w18, .int w19, .ref g20, .int w21, .ref g22, .ref g23, .ref g24, .int w25, .int w26, .int w27, .ref g28, .ref g29, .int w30, .ref g31, .ref g32, .ref g33]))]) rfl dX8_fault_2 (fun H locs V => ?_)
  refine lv_iload_n hx hb dX8_fault_5 rfl (lv_at hl 1 rfl) ?_
  refine lv_if_ne (tgt := 16) hx hb dX8_fault_6 (by decide) (fun c_1 => ?_) (fun c_1 => ?_)
  · skip
    refine lv_iload_n hx hb dX8_fault_16 rfl (lv_at hl 1 rfl) ?_
    refine lv_iconst (v := (nI 1)) hx hb dX8_fault_17 (by decide +kernel) ?_
    refine lv_icmp_ne (tgt := 28) hx hb dX8_fault_18 (by decide) (fun c_2 => ?_) (fun c_2 => ?_)
    · skip
      refine lv_iconst (v := (-1)) hx hb dX8_fault_28 (by decide +kernel) ?_
      exact g_iret (Qr := (q_m_fault_f T o wh w0 g1 g2 g3 g4 tp w6 w7 w8 w9 w10 w11 w12 w13 w14 g15 w16 g17 w18 w19 g20 w21 g22 g23 g24 w25 w26 w27 g28 g29 w30 g31 g32 g33)) hC V ⟨(Nat.le_of_ble_eq_true rfl), (Nat.le_of_ble_eq_true rfl)⟩ ⟨(-1), rfl, rfl, (by first | exact ft_0 (by assumption) | exact ft_1 (by assumption) (by assumption) | exact ft_2 (by assumption) (by assumption))⟩ dX8_fault_29
    · skip
      refine lv_aload_n hx hb dX8_fault_21 rfl (lv_at hl 0 rfl) ?_
      refine g_get hC V (ci := 8) uwX8 0 rfl rfl 14 (by decide) w_926 rfl rfl dX8_fault_22 ?_
      refine lv_goto (tgt := 29) hx hb dX8_fault_25 (by decide) ?_
      exact g_iret (Qr := (q_m_fault_f T o wh w0 g1 g2 g3 g4 tp w6 w7 w8 w9 w10 w11 w12 w13 w14 g15 w16 g17 w18 w19 g20 w21 g22 g23 g24 w25 w26 w27 g28 g29 w30 g31 g32 g33)) hC V ⟨(Nat.le_of_ble_eq_true rfl), (Nat.le_of_ble_eq_true rfl)⟩ ⟨w14, rfl, rfl, (by first | exact ft_0 (by assumption) | exact ft_1 (by assumption) (by assumption) | exact ft_2 (by assumption) (by assumption))⟩ dX8_fault_29
  · skip
    refine lv_aload_n hx hb dX8_fault_9 rfl (lv_at hl 0 rfl) ?_
    refine g_get hC V (ci := 8) uwX8 0 rfl rfl 13 (by decide) w_925 rfl rfl dX8_fault_10 ?_
    refine lv_goto (tgt := 29) hx hb dX8_fault_13 (by decide) ?_
    exact g_iret (Qr := (q_m_fault_f T o wh w0 g1 g2 g3 g4 tp w6 w7 w8 w9 w10 w11 w12 w13 w14 g15 w16 g17 w18 w19 g20 w21 g22 g23 g24 w25 w26 w27 g28 g29 w30 g31 g32 g33)) hC V ⟨(Nat.le_of_ble_eq_true rfl), (Nat.le_of_ble_eq_true rfl)⟩ ⟨w13, rfl, rfl, (by first | exact ft_0 (by assumption) | exact ft_1 (by assumption) (by assumption) | exact ft_2 (by assumption) (by assumption))⟩ dX8_fault_29

/-! a MINUTE, over the reference's numbers -/
abbrev bitP (x : Int32) (i : Nat) : Prop := ¬ ((x >>> (nI i &&& 31)) &&& nI 1) = 0
theorem and1_01 (y : Int32) : y &&& nI 1 = 0 ∨ y &&& nI 1 = nI 1 := by
  have h : (y &&& nI 1).toBitVec.toNat = y.toBitVec.toNat % 2 := by
    show (y.toBitVec &&& (nI 1).toBitVec).toNat = _
    rw [BitVec.toNat_and, show (nI 1).toBitVec.toNat = 1 by decide +kernel, Nat.and_one_is_mod]
  rcases Nat.mod_two_eq_zero_or_one y.toBitVec.toNat with e | e
  · refine Or.inl (Int32.toBitVec_inj.mp (BitVec.eq_of_toNat_eq ?_))
    rw [h, e]; decide +kernel
  · refine Or.inr (Int32.toBitVec_inj.mp (BitVec.eq_of_toNat_eq ?_))
    rw [h, e]; decide +kernel
theorem shr_64 {x : Int32} {i : Nat} (hi : i < 13) : x.toInt64 >>> ((nI i).toInt64 &&& 63) = (x >>> (nI i &&& 31)).toInt64 := by
  have e1 : ((((nI i).toInt64 &&& 63).toBitVec).smod 64).toNat = i := by
    have H : ∀ i : Fin 13, ((((nI i.1).toInt64 &&& 63).toBitVec).smod 64).toNat = i.1 := by decide +kernel
    exact H ⟨i, hi⟩
  have e2 : (((nI i &&& 31).toBitVec).smod 32).toNat = i := by
    have H : ∀ i : Fin 13, (((nI i.1 &&& 31).toBitVec).smod 32).toNat = i.1 := by decide +kernel
    exact H ⟨i, hi⟩
  apply Int64.toInt_inj.mp
  rw [Int32.toInt_toInt64]
  show ((x.toInt64.toBitVec).sshiftRight' (((nI i).toInt64 &&& 63).toBitVec.smod 64)).toInt = ((x.toBitVec).sshiftRight' ((nI i &&& 31).toBitVec.smod 32)).toInt
  rw [BitVec.sshiftRight_eq', BitVec.sshiftRight_eq', e1, e2, BitVec.toInt_sshiftRight, BitVec.toInt_sshiftRight]
  have h : x.toInt64.toBitVec.toInt = x.toBitVec.toInt := Int32.toInt_toInt64 x
  rw [h]
theorem bit_m {x : Int32} {i : Nat} (hi : i < 13) : lg_cmp (x.toInt64 >>> ((nI i).toInt64 &&& 63) &&& (nI 1).toInt64) (nI 1).toInt64 = 0 ↔ bitP x i := by
  rw [lg_cmp_eq, shr_64 hi, ← Int32.toInt64_and]
  show ((x >>> (nI i &&& 31)) &&& nI 1).toInt64 = (nI 1).toInt64 ↔ ¬ ((x >>> (nI i &&& 31)) &&& nI 1) = 0
  generalize x >>> (nI i &&& 31) = y
  constructor
  · intro h h0
    rw [h0] at h
    exact absurd h (by decide +kernel)
  · intro h
    rcases and1_01 y with e | e
    · exact absurd e h
    · rw [e]
abbrev warmP (f : Nat → Int32) (i : Nat) : Prop := ¬ f (24 + i) < f (34 + i) ∧ ¬ f (44 + i) < f (24 + i)
/-- the BLASTS of the first k who pull and blow the fire i -/
def bsF (f : Nat → Int32) (pl : Int32) (i : Nat) : Nat → Int32
  | 0 => nI 0
  | k + 1 => bsF f pl i k + (if bitP pl k ∧ f (84 + k) = nI i then f (4 + k) else nI 0)
theorem bs_y {f : Nat → Int32} {pl h0 : Int32} {i k : Nat} (h1 : bitP pl k) (h2 : f (84 + k) = nI i) : h0 + bsF f pl i k + f (4 + k) = h0 + bsF f pl i (k + 1) := by
  show _ = h0 + (bsF f pl i k + (if bitP pl k ∧ f (84 + k) = nI i then f (4 + k) else nI 0))
  rw [if_pos ⟨h1, h2⟩, Int32.add_assoc]
theorem bs_n {f : Nat → Int32} {pl h0 : Int32} {i k : Nat} (h : ¬ (bitP pl k ∧ f (84 + k) = nI i)) : h0 + bsF f pl i k + nI 0 = h0 + bsF f pl i (k + 1) := by
  show _ = h0 + (bsF f pl i k + (if bitP pl k ∧ f (84 + k) = nI i then f (4 + k) else nI 0))
  rw [if_neg h, Int32.add_assoc]
theorem add_n0 (x : Int32) : x = x + nI 0 := (Int32.add_zero x).symm
theorem bsF_ext {f g : Nat → Int32} {pl : Int32} {i n : Nat} (h4 : ∀ k, k < n → g (4 + k) = f (4 + k)) (h84 : ∀ k, k < n → g (84 + k) = f (84 + k)) : ∀ k, k ≤ n → bsF g pl i k = bsF f pl i k
  | 0, _ => rfl
  | k + 1, hk => by
    show bsF g pl i k + (if bitP pl k ∧ g (84 + k) = nI i then g (4 + k) else nI 0) = bsF f pl i k + (if bitP pl k ∧ f (84 + k) = nI i then f (4 + k) else nI 0)
    rw [bsF_ext h4 h84 k (by omega), h4 k (by omega), h84 k (by omega)]
/-- the HEAT behind the MINUTE -/
def hNw (n : Nat) (f : Nat → Int32) (pl fi mr : Int32) (i : Nat) : Int32 := ibf (f (24 + i) + (if nI i = fi then mr else nI 0) - f (14 + i) + bsF f pl i n)
abbrev strP (f : Nat → Int32) (sk : Int32) (i : Nat) : Prop := bitP sk i ∧ f (64 + i) < f (54 + i) ∧ warmP f i
/-- strokes behind the striking, behind the burning -/
def st1 (f : Nat → Int32) (sk : Int32) (i : Nat) : Int32 := if strP f sk i then f (64 + i) + nI 1 else f (64 + i)
abbrev burP (n : Nat) (f : Nat → Int32) (pl sk fi mr : Int32) (i : Nat) : Prop := st1 f sk i < f (54 + i) ∧ ¬ st1 f sk i = 0 ∧ f (44 + i) < hNw n f pl fi mr i
def st2 (n : Nat) (f : Nat → Int32) (pl sk fi mr : Int32) (i : Nat) : Int32 := if burP n f pl sk fi mr i then (if f 2 < st1 f sk i then st1 f sk i - f 2 else nI 0) else st1 f sk i
def bu2 (n : Nat) (f : Nat → Int32) (pl sk fi mr : Int32) (i : Nat) : Int32 := if burP n f pl sk fi mr i then f (74 + i) + nI 1 else f (74 + i)
/-- how many strokes count, how many PIECES are burnt, of the first k -/
def goC (f : Nat → Int32) (sk : Int32) : Nat → Int32
  | 0 => nI 0
  | k + 1 => if strP f sk k then goC f sk k + nI 1 else goC f sk k
def goB (n : Nat) (f : Nat → Int32) (pl sk fi mr : Int32) : Nat → Int32
  | 0 => nI 0
  | k + 1 => if burP n f pl sk fi mr k then goB n f pl sk fi mr k + nI 1 else goB n f pl sk fi mr k
/-- the numbers when the first k have been burnt or not -/
def md (n : Nat) (f : Nat → Int32) (pl sk fi mr : Int32) (k : Nat) : Nat → Int32 := fun j =>
  if 24 ≤ j ∧ j < 24 + k then hNw n f pl fi mr (j - 24)
  else if 64 ≤ j ∧ j < 64 + k then st2 n f pl sk fi mr (j - 64)
  else if 64 ≤ j ∧ j < 64 + n then st1 f sk (j - 64)
  else if 74 ≤ j ∧ j < 74 + k then bu2 n f pl sk fi mr (j - 74)
  else f j
/-- .. and behind the MINUTE -/
def goF (n : Nat) (f : Nat → Int32) (pl sk fi mr : Int32) : Nat → Int32 := upd (md n f pl sk fi mr n) 1 (f 1 + nI 1)
theorem md_0 {n : Nat} {f g : Nat → Int32} {pl sk fi mr : Int32} (hn : n ≤ 10) (h : ∀ j, (j < 64 ∨ 64 + n ≤ j) → g j = f j) (h2 : ∀ i, i < n → g (64 + i) = st1 f sk i) : g = md n f pl sk fi mr 0 := by
  funext j
  unfold md
  rw [if_neg (by omega), if_neg (by omega)]
  by_cases c : 64 ≤ j ∧ j < 64 + n
  · rw [if_pos c]
    have := h2 (j - 64) (by omega)
    rw [show 64 + (j - 64) = j by omega] at this
    exact this
  · rw [if_neg c, if_neg (by omega)]
    exact h j (by omega)
theorem md_at {n k i : Nat} {f : Nat → Int32} {pl sk fi mr : Int32} (hn : n ≤ 10) (hk : k ≤ i) (hi : i < n) : md n f pl sk fi mr k (64 + i) = st1 f sk i ∧ md n f pl sk fi mr k (74 + i) = f (74 + i) ∧ md n f pl sk fi mr k (24 + i) = f (24 + i) := by
  unfold md
  refine ⟨?_, ?_, ?_⟩
  · rw [if_neg (by omega), if_neg (by omega), if_pos (by omega), show 64 + i - 64 = i by omega]
  · rw [if_neg (by omega), if_neg (by omega), if_neg (by omega), if_neg (by omega)]
  · rw [if_neg (by omega), if_neg (by omega), if_neg (by omega), if_neg (by omega)]
theorem md_other {n k j : Nat} {f : Nat → Int32} {pl sk fi mr : Int32} (hn : n ≤ 10) (hk : k ≤ n) (h : j < 24 ∨ (34 ≤ j ∧ j < 64) ∨ 84 ≤ j) : md n f pl sk fi mr k j = f j := by
  unfold md
  rw [if_neg (by omega), if_neg (by omega), if_neg (by omega), if_neg (by omega)]
/-- one more, who isn't burnt; who is -/
theorem md_n {n k : Nat} {f : Nat → Int32} {pl sk fi mr : Int32} (hn : n ≤ 10) (hk : k < n) (h : ¬ burP n f pl sk fi mr k) : upd (md n f pl sk fi mr k) (24 + k) (hNw n f pl fi mr k) = md n f pl sk fi mr (k + 1) := by
  funext j
  by_cases c : j = 24 + k
  · subst c
    rw [up_same]; unfold md
    rw [if_pos (by omega), show 24 + k - 24 = k by omega]
  · rw [up_other c]
    by_cases c2 : j = 64 + k
    · subst c2
      rw [(md_at hn (Nat.le_refl k) hk).1]; unfold md
      rw [if_neg (by omega), if_pos (by omega), show 64 + k - 64 = k by omega]
      unfold st2; rw [if_neg h]
    · by_cases c3 : j = 74 + k
      · subst c3
        rw [(md_at hn (Nat.le_refl k) hk).2.1]; unfold md
        rw [if_neg (by omega), if_neg (by omega), if_neg (by omega), if_pos (by omega), show 74 + k - 74 = k by omega]
        unfold bu2; rw [if_neg h]
      · unfold md
        by_cases q1 : 24 ≤ j ∧ j < 24 + k
        · rw [if_pos q1, if_pos (by omega)]
        · rw [if_neg q1, if_neg (show ¬ (24 ≤ j ∧ j < 24 + (k + 1)) by omega)]
          by_cases q2 : 64 ≤ j ∧ j < 64 + k
          · rw [if_pos q2, if_pos (by omega)]
          · rw [if_neg q2, if_neg (show ¬ (64 ≤ j ∧ j < 64 + (k + 1)) by omega)]
            by_cases q3 : 64 ≤ j ∧ j < 64 + n
            · rw [if_pos q3, if_pos q3]
            · rw [if_neg q3, if_neg q3]
              by_cases q4 : 74 ≤ j ∧ j < 74 + k
              · rw [if_pos q4, if_pos (by omega)]
              · rw [if_neg q4, if_neg (show ¬ (74 ≤ j ∧ j < 74 + (k + 1)) by omega)]
theorem md_y {n k : Nat} {f : Nat → Int32} {pl sk fi mr x : Int32} (hn : n ≤ 10) (hk : k < n) (h : burP n f pl sk fi mr k) (hx : x = if f 2 < st1 f sk k then st1 f sk k - f 2 else nI 0) : upd (upd (upd (md n f pl sk fi mr k) (24 + k) (hNw n f pl fi mr k)) (64 + k) x) (74 + k) (f (74 + k) + nI 1) = md n f pl sk fi mr (k + 1) := by
  funext j
  by_cases c3 : j = 74 + k
  · subst c3
    rw [up_same]; unfold md
    rw [if_neg (by omega), if_neg (by omega), if_neg (by omega), if_pos (by omega), show 74 + k - 74 = k by omega]
    unfold bu2; rw [if_pos h]
  · rw [up_other c3]
    by_cases c2 : j = 64 + k
    · subst c2
      rw [up_same]; unfold md
      rw [if_neg (by omega), if_pos (by omega), show 64 + k - 64 = k by omega]
      unfold st2; rw [if_pos h]; exact hx
    · rw [up_other c2]
      by_cases c : j = 24 + k
      · subst c
        rw [up_same]; unfold md
        rw [if_pos (by omega), show 24 + k - 24 = k by omega]
      · rw [up_other c]
        unfold md
        by_cases q1 : 24 ≤ j ∧ j < 24 + k
        · rw [if_pos q1, if_pos (by omega)]
        · rw [if_neg q1, if_neg (show ¬ (24 ≤ j ∧ j < 24 + (k + 1)) by omega)]
          by_cases q2 : 64 ≤ j ∧ j < 64 + k
          · rw [if_pos q2, if_pos (by omega)]
          · rw [if_neg q2, if_neg (show ¬ (64 ≤ j ∧ j < 64 + (k + 1)) by omega)]
            by_cases q3 : 64 ≤ j ∧ j < 64 + n
            · rw [if_pos q3, if_pos q3]
            · rw [if_neg q3, if_neg q3]
              by_cases q4 : 74 ≤ j ∧ j < 74 + k
              · rw [if_pos q4, if_pos (by omega)]
              · rw [if_neg q4, if_neg (show ¬ (74 ≤ j ∧ j < 74 + (k + 1)) by omega)]
theorem ht_eq {n i k : Nat} {f g : Nat → Int32} {pl fi mr m z : Int32} (hn : n ≤ 10) (hi : i < n) (hk : k ≤ n) (hA : ∀ j, (j < 64 ∨ 64 + k ≤ j) → g j = f j) (e : z = ibf (g (24 + i) + m - g (14 + i) + bsF g pl i n)) (hm : m = if nI i = fi then mr else nI 0) : z = hNw n f pl fi mr i := by
  rw [e, hA (24 + i) (by omega), hA (14 + i) (by omega), bsF_ext (fun k hk => hA (4 + k) (by omega)) (fun k hk => hA (84 + k) (by omega)) n (Nat.le_refl _), hm]
  rfl
theorem gA_y {k : Nat} {f g h : Nat → Int32} {x : Int32} (e : h = upd g (64 + k) x) (hA : ∀ j, (j < 64 ∨ 64 + k ≤ j) → g j = f j) : ∀ j, (j < 64 ∨ 64 + (k + 1) ≤ j) → h j = f j := fun j hj => by
  rw [e, up_other (by omega)]; exact hA j (by omega)
theorem gB_y {k : Nat} {f g h : Nat → Int32} {sk x : Int32} (e : h = upd g (64 + k) x) (hB : ∀ i, i < k → g (64 + i) = st1 f sk i) (hx : x = st1 f sk k) : ∀ i, i < k + 1 → h (64 + i) = st1 f sk i := fun i hi => by
  by_cases c : i = k
  · rw [e, c, up_same]; exact hx
  · rw [e, up_other (by omega)]; exact hB i (by omega)
theorem gB_n {k : Nat} {f g : Nat → Int32} {sk : Int32} (hA : ∀ j, (j < 64 ∨ 64 + k ≤ j) → g j = f j) (hB : ∀ i, i < k → g (64 + i) = st1 f sk i) (h : ¬ strP f sk k) : ∀ i, i < k + 1 → g (64 + i) = st1 f sk i := fun i hi => by
  by_cases c : i = k
  · rw [c, hA _ (by omega)]; unfold st1; rw [if_neg h]
  · exact hB i (by omega)
theorem gC_y {f : Nat → Int32} {sk : Int32} {k : Nat} (h : strP f sk k) : goC f sk k + 1 = goC f sk (k + 1) := (if_pos h).symm
theorem gC_n {f : Nat → Int32} {sk : Int32} {k : Nat} (h : ¬ strP f sk k) : goC f sk k = goC f sk (k + 1) := (if_neg h).symm
theorem bnd_eq (x : Int32) : (if nI 0 < (if x < nI 200 then x else nI 200) then (if x < nI 200 then x else nI 200) else nI 0) = ibf x := by
  have e0 : (nI 0).toInt = 0 := by decide +kernel
  have e2 : (nI 200).toInt = 200 := by decide +kernel
  have e3 : (0 : Int32).toInt = 0 := by decide +kernel
  unfold ibf
  by_cases c : x < nI 200
  · rw [if_pos c]
    by_cases c2 : nI 0 < x
    · rw [if_pos c2]
      rw [Int32.lt_iff_toInt_lt] at c c2
      rw [if_neg (by rw [Int32.lt_iff_toInt_lt]; omega), if_neg (by rw [Int32.lt_iff_toInt_lt]; omega)]
    · rw [if_neg c2]
      by_cases c3 : x < 0
      · rw [if_pos c3]
      · rw [if_neg c3]
        rw [Int32.lt_iff_toInt_lt] at c c2 c3
        rw [if_neg (by rw [Int32.lt_iff_toInt_lt]; omega)]
        exact Int32.toInt_inj.mp (by omega)
  · rw [if_neg c, if_pos (by decide +kernel)]
    rw [Int32.lt_iff_toInt_lt] at c
    rw [if_neg (by rw [Int32.lt_iff_toInt_lt]; omega)]
    by_cases c4 : nI 200 < x
    · rw [if_pos c4]
    · rw [if_neg c4]
      rw [Int32.lt_iff_toInt_lt] at c4
      exact Int32.toInt_inj.mp (by omega)
/-- the changes of the HEATS -/
theorem wc_y {n k j : Nat} {f g c : Nat → Int32} {pl x : Int32} (hn : n ≤ 10) (h : ∀ i, i < n → g i = c i + bsF f pl i k) (hb : bitP pl k) (e : f (84 + k) = nI j) (hj : j < n) (hx : x = f (4 + k)) : ∀ i, i < n → upd g j (g j + x) i = c i + bsF f pl i (k + 1) := by
  intro i hi
  by_cases q : i = j
  · subst q
    rw [up_same, h i hi, hx]; exact bs_y hb e
  · rw [up_other q, h i hi, ← bs_n (fun r => q (b_eq (by omega) (by omega) (r.2.symm.trans e)))]; exact add_n0 _
theorem wc_n {n k : Nat} {f g c : Nat → Int32} {pl : Int32} (h : ∀ i, i < n → g i = c i + bsF f pl i k) (hb : ¬ bitP pl k) : ∀ i, i < n → g i = c i + bsF f pl i (k + 1) := by
  intro i hi
  rw [h i hi, ← bs_n (fun r => hb r.1)]; exact add_n0 _
theorem wc_0 {n : Nat} {f g c : Nat → Int32} {pl : Int32} (h : ∀ i, i < n → g i = c i) : ∀ i, i < n → g i = c i + bsF f pl i 0 := fun i hi => (h i hi).trans (add_n0 _)
theorem sP_eq {n k : Nat} {f g : Nat → Int32} (hn : n ≤ 10) (hk : k < n) (hA : ∀ j, (j < 64 ∨ 64 + k ≤ j) → g j = f j) : g (64 + k) = f (64 + k) ∧ g (54 + k) = f (54 + k) ∧ g (24 + k) = f (24 + k) ∧ g (34 + k) = f (34 + k) ∧ g (44 + k) = f (44 + k) := ⟨hA _ (by omega), hA _ (by omega), hA _ (by omega), hA _ (by omega), hA _ (by omega)⟩
theorem sP_y {n k : Nat} {f g : Nat → Int32} {sk : Int32} (hn : n ≤ 10) (hk : k < n) (hA : ∀ j, (j < 64 ∨ 64 + k ≤ j) → g j = f j) (h1 : bitP sk k) (h2 : g (64 + k) < g (54 + k)) (h3 : warmP g k) : strP f sk k := by
  obtain ⟨a1, a2, a3, a4, a5⟩ := sP_eq hn hk hA
  refine ⟨h1, by rw [← a1, ← a2]; exact h2, ?_⟩
  have : warmP g k = warmP f k := by unfold warmP; rw [a3, a4, a5]
  rw [← this]; exact h3
theorem sP_2 {n k : Nat} {f g : Nat → Int32} {sk : Int32} (hn : n ≤ 10) (hk : k < n) (hA : ∀ j, (j < 64 ∨ 64 + k ≤ j) → g j = f j) (h2 : ¬ g (64 + k) < g (54 + k)) : ¬ strP f sk k := by
  obtain ⟨a1, a2, a3, a4, a5⟩ := sP_eq hn hk hA
  rw [a1, a2] at h2
  exact fun q => h2 q.2.1
theorem sP_3 {n k : Nat} {f g : Nat → Int32} {sk : Int32} (hn : n ≤ 10) (hk : k < n) (hA : ∀ j, (j < 64 ∨ 64 + k ≤ j) → g j = f j) (h3 : ¬ warmP g k) : ¬ strP f sk k := by
  obtain ⟨a1, a2, a3, a4, a5⟩ := sP_eq hn hk hA
  have : warmP g k = warmP f k := by unfold warmP; rw [a3, a4, a5]
  rw [this] at h3
  exact fun q => h3 q.2.2
theorem st1_y {f : Nat → Int32} {sk : Int32} {k j : Nat} (h : strP f sk k) (e : f (64 + k) = nI j) : nI (j + 1) = st1 f sk k := by unfold st1; rw [if_pos h, e, nI_add]
/-- who is burnt, as the second walk sees it -/
theorem md_g {n k : Nat} {f g : Nat → Int32} {pl sk fi mr x : Int32} (hn : n ≤ 10) (hk : k < n) (e : g = upd (md n f pl sk fi mr k) (24 + k) x) : g (64 + k) = st1 f sk k ∧ g (54 + k) = f (54 + k) ∧ g (44 + k) = f (44 + k) ∧ g 2 = f 2 ∧ g (74 + k) = f (74 + k) := by
  have q := md_at (f := f) (pl := pl) (sk := sk) (fi := fi) (mr := mr) hn (Nat.le_refl k) hk
  rw [e]
  refine ⟨by rw [up_other (by omega)]; exact q.1, by rw [up_other (by omega)]; exact md_other hn (by omega) (by omega), by rw [up_other (by omega)]; exact md_other hn (by omega) (by omega), by rw [up_other (by omega)]; exact md_other hn (by omega) (by omega), by rw [up_other (by omega)]; exact q.2.1⟩
theorem bur_y {n k : Nat} {f g : Nat → Int32} {pl sk fi mr x : Int32} (hn : n ≤ 10) (hk : k < n) (e : g = upd (md n f pl sk fi mr k) (24 + k) x) (hx : x = hNw n f pl fi mr k) (h1 : g (64 + k) < g (54 + k)) (h2 : ¬ g (64 + k) = 0) (h3 : g (44 + k) < x) : burP n f pl sk fi mr k := by
  obtain ⟨a1, a2, a3, a4, a5⟩ := md_g hn hk e
  rw [a1, a2] at h1; rw [a1] at h2; rw [a3, hx] at h3
  exact ⟨h1, h2, h3⟩
theorem bur_1 {n k : Nat} {f g : Nat → Int32} {pl sk fi mr x : Int32} (hn : n ≤ 10) (hk : k < n) (e : g = upd (md n f pl sk fi mr k) (24 + k) x) (h1 : ¬ g (64 + k) < g (54 + k)) : ¬ burP n f pl sk fi mr k := by
  obtain ⟨a1, a2, a3, a4, a5⟩ := md_g hn hk e
  rw [a1, a2] at h1; exact fun q => h1 q.1
theorem bur_2 {n k : Nat} {f g : Nat → Int32} {pl sk fi mr x : Int32} (hn : n ≤ 10) (hk : k < n) (e : g = upd (md n f pl sk fi mr k) (24 + k) x) (h2 : g (64 + k) = 0) : ¬ burP n f pl sk fi mr k := by
  obtain ⟨a1, a2, a3, a4, a5⟩ := md_g hn hk e
  rw [a1] at h2; exact fun q => q.2.1 h2
theorem bur_3 {n k : Nat} {f g : Nat → Int32} {pl sk fi mr x : Int32} (hn : n ≤ 10) (hk : k < n) (e : g = upd (md n f pl sk fi mr k) (24 + k) x) (hx : x = hNw n f pl fi mr k) (h3 : ¬ g (44 + k) < x) : ¬ burP n f pl sk fi mr k := by
  obtain ⟨a1, a2, a3, a4, a5⟩ := md_g hn hk e
  rw [a3, hx] at h3; exact fun q => h3 q.2.2
theorem mdn_y {n k : Nat} {f g : Nat → Int32} {pl sk fi mr x : Int32} (hn : n ≤ 10) (hk : k < n) (e : g = upd (md n f pl sk fi mr k) (24 + k) x) (hx : x = hNw n f pl fi mr k) (h : ¬ burP n f pl sk fi mr k) : g = md n f pl sk fi mr (k + 1) := by
  rw [e, hx]; exact md_n hn hk h
theorem md_yy {n k : Nat} {f ga gb gc : Nat → Int32} {pl sk fi mr x v : Int32} (hn : n ≤ 10) (hk : k < n) (e : ga = upd (md n f pl sk fi mr k) (24 + k) x) (hx : x = hNw n f pl fi mr k) (eb : gb = upd ga (64 + k) v) (ec : gc = upd gb (74 + k) (gb (74 + k) + nI 1)) (hv : v = if f 2 < st1 f sk k then st1 f sk k - f 2 else nI 0) (h : burP n f pl sk fi mr k) : gc = md n f pl sk fi mr (k + 1) := by
  have a5 := (md_g hn hk e).2.2.2.2
  have b5 : gb (74 + k) = f (74 + k) := by rw [eb, up_other (by omega)]; exact a5
  rw [ec, b5, eb, e, hx]
  exact md_y hn hk h hv
theorem bv_y {n k jb jc : Nat} {f g : Nat → Int32} {pl sk fi mr x : Int32} (hn : n ≤ 10) (hk : k < n) (e : g = upd (md n f pl sk fi mr k) (24 + k) x) (eb : g (64 + k) = nI jb) (ec : g 2 = nI jc) (hb : jb < 1000) (h : jc < jb) : nI (jb - jc) = if f 2 < st1 f sk k then st1 f sk k - f 2 else nI 0 := by
  obtain ⟨a1, a2, a3, a4, a5⟩ := md_g hn hk e
  rw [← a1, ← a4, eb, ec, if_pos ((nI_ltI (by omega) (by omega)).mpr h), nI_sub (by omega)]
theorem bv_n {n k jb jc : Nat} {f g : Nat → Int32} {pl sk fi mr x : Int32} (hn : n ≤ 10) (hk : k < n) (e : g = upd (md n f pl sk fi mr k) (24 + k) x) (eb : g (64 + k) = nI jb) (ec : g 2 = nI jc) (hc : jc < 1000) (h : jb ≤ jc) : nI 0 = if f 2 < st1 f sk k then st1 f sk k - f 2 else nI 0 := by
  obtain ⟨a1, a2, a3, a4, a5⟩ := md_g hn hk e
  rw [← a1, ← a4, eb, ec, if_neg (fun q => by have := (nI_ltI (by omega) (by omega)).mp q; omega)]
theorem gBB_y {n k : Nat} {f : Nat → Int32} {pl sk fi mr u : Int32} (h : burP n f pl sk fi mr k) : u + goB n f pl sk fi mr k + nI 1 = u + goB n f pl sk fi mr (k + 1) := by
  have e : goB n f pl sk fi mr (k + 1) = goB n f pl sk fi mr k + nI 1 := if_pos h
  rw [e, Int32.add_assoc]
theorem gBB_n {n k : Nat} {f : Nat → Int32} {pl sk fi mr : Int32} (h : ¬ burP n f pl sk fi mr k) : goB n f pl sk fi mr k = goB n f pl sk fi mr (k + 1) := (if_neg h).symm
theorem go_end {n k : Nat} {f g h : Nat → Int32} {pl sk fi mr : Int32} (hn : n ≤ 10) (hM : g = md n f pl sk fi mr k) (hk : k = n) (e : h = upd g 1 (g 1 + nI 1)) : h = goF n f pl sk fi mr := by
  subst hk
  have e1 : g 1 = f 1 := by rw [hM]; exact md_other hn (Nat.le_refl _) (by omega)
  rw [e, e1, hM]; rfl
/-! the class's MINUTE -/
def mx0 (x : Int32) : Int32 := if nI 0 < x then x else nI 0
theorem st1_bd {n k : Nat} {f : Nat → Int32} {sk : Int32} (h : MI n f) (hk : k < n) : bd (st1 f sk k) 33 := by
  obtain ⟨a, ha, ea⟩ := mi_has h hk
  obtain ⟨b, hb, eb⟩ := mi_need h hk
  unfold st1
  split
  · rename_i q
    have q2 := q.2.1
    rw [ea, eb] at q2
    have := b_lt (by omega) (by omega) q2
    rw [ea, nI_add]
    exact bd_nI (by omega)
  · rw [ea]; exact bd_nI (by omega)
theorem mx_eq {x y : Int32} (hx : bd x 33) (hy : bd y 21) : mx0 (x - y) = if y < x then x - y else nI 0 := by
  obtain ⟨a, ha, rfl⟩ := hx
  obtain ⟨b, hb, rfl⟩ := hy
  have H : ∀ (a : Fin 33) (b : Fin 21), mx0 (nI a.1 - nI b.1) = if nI b.1 < nI a.1 then nI a.1 - nI b.1 else nI 0 := by decide +kernel
  exact H ⟨a, ha⟩ ⟨b, hb⟩
theorem nle0 {x : Int32} (hx : bd x 33) : (¬ x ≤ 0) ↔ ¬ x = 0 := by
  obtain ⟨a, ha, rfl⟩ := hx
  have H : ∀ a : Fin 33, (¬ nI a.1 ≤ 0) ↔ ¬ nI a.1 = 0 := by decide +kernel
  exact H ⟨a, ha⟩
theorem ch_eq (a m c b : Int32) : a + (-c + b + m) = a + m - c + b := by
  rw [Int32.sub_eq_add_neg, Int32.add_assoc a m (-c), Int32.add_assoc a (m + -c) b, Int32.add_comm (-c + b) m, Int32.add_assoc m (-c) b]
theorem ch_in {n j : Nat} {f g : Nat → Int32} {pl sf sb : Int32} (hn : n ≤ 10) (e : sf = nI j) (hj : j < n) (h : ∀ i, i < n → g i = -(f (14 + i)) + bsF f pl i n) : ∀ i, i < n → upd g j (g j + sb) i = -(f (14 + i)) + bsF f pl i n + (if nI i = sf then sb else nI 0) := by
  intro i hi
  by_cases q : i = j
  · subst q; rw [up_same, h i hi, if_pos e.symm]
  · rw [up_other q, h i hi, if_neg (fun r => q (b_eq (by omega) (by omega) (r.trans e)))]; exact add_n0 _
theorem ch_out {n : Nat} {f g : Nat → Int32} {pl sf sb : Int32} (hn : n ≤ 10) (e : sf < 0 ∨ nI n ≤ sf) (h : ∀ i, i < n → g i = -(f (14 + i)) + bsF f pl i n) : ∀ i, i < n → g i = -(f (14 + i)) + bsF f pl i n + (if nI i = sf then sb else nI 0) := by
  intro i hi
  rw [h i hi, if_neg (fun r => by
    rw [← r] at e
    rcases e with e | e
    · exact absurd e (nI_pos (by omega))
    · have := b_le (by omega) (by omega) e; omega)]
  exact add_n0 _
theorem hN_c {n i : Nat} {f : Nat → Int32} {pl sf sb x y z : Int32} (hx : x = f (24 + i)) (hy : y = -(f (14 + i)) + bsF f pl i n + (if nI i = sf then sb else nI 0)) (e : z = ibf (x + y)) : z = hNw n f pl sf sb i := by
  rw [e, hx, hy, ch_eq]; rfl
theorem sC_y {k : Nat} {f g7 g6 g3 g4 g5 : Nat → Int32} {sk : Int32} (e7 : g7 k = f (64 + k)) (e6 : g6 k = f (54 + k)) (e3 : g3 k = f (24 + k)) (e4 : g4 k = f (34 + k)) (e5 : g5 k = f (44 + k)) (h1 : bitP sk k) (h2 : g7 k < g6 k) (h3 : ¬ g3 k < g4 k) (h4 : ¬ g5 k < g3 k) : strP f sk k := by
  rw [e7, e6] at h2; rw [e3, e4] at h3; rw [e5, e3] at h4
  exact ⟨h1, h2, h3, h4⟩
theorem sC_n {k : Nat} {f g7 g6 g3 g4 g5 : Nat → Int32} {sk : Int32} (e7 : g7 k = f (64 + k)) (e6 : g6 k = f (54 + k)) (e3 : g3 k = f (24 + k)) (e4 : g4 k = f (34 + k)) (e5 : g5 k = f (44 + k)) (h : ¬ g7 k < g6 k ∨ g3 k < g4 k ∨ g5 k < g3 k) : ¬ strP f sk k := by
  rw [e7, e6, e3, e4, e5] at h
  rintro ⟨-, a, b, c⟩
  rcases h with h | h | h
  · exact h a
  · exact b h
  · exact c h
theorem c7_y {k : Nat} {f g g0 : Nat → Int32} {sk : Int32} (hB : ∀ i, i < k → g i = st1 f sk i) (e : g k = f (64 + k)) (h : strP f sk k) : ∀ i, i < k + 1 → upd g k (g k + nI 1) i = st1 f sk i := by
  intro i hi
  by_cases c : i = k
  · subst c; rw [up_same, e]; unfold st1; rw [if_pos h]
  · rw [up_other c]; exact hB i (by omega)
theorem c7_n {k : Nat} {f g : Nat → Int32} {sk : Int32} (hB : ∀ i, i < k → g i = st1 f sk i) (e : g k = f (64 + k)) (h : ¬ strP f sk k) : ∀ i, i < k + 1 → g i = st1 f sk i := by
  intro i hi
  by_cases c : i = k
  · subst c; rw [e]; unfold st1; rw [if_neg h]
  · exact hB i (by omega)
/-- burnt or not, as the class sees it -/
theorem cb_y {n k : Nat} {f : Nat → Int32} {pl sk sf sb a6 a7 a5 z : Int32} (hM : MI n f) (hk : k < n) (e7 : a7 = st1 f sk k) (e6 : a6 = f (54 + k)) (e5 : a5 = f (44 + k)) (ez : z = hNw n f pl sf sb k) (h1 : a7 < a6) (h2 : ¬ a7 ≤ 0) (h3 : a5 < z) : burP n f pl sk sf sb k := by
  rw [e7, e6] at h1; rw [e7] at h2; rw [e5, ez] at h3
  exact ⟨h1, (nle0 (st1_bd hM hk)).mp h2, h3⟩
theorem cb_n {n k : Nat} {f : Nat → Int32} {pl sk sf sb a6 a7 a5 z : Int32} (hM : MI n f) (hk : k < n) (e7 : a7 = st1 f sk k) (e6 : a6 = f (54 + k)) (e5 : a5 = f (44 + k)) (ez : z = hNw n f pl sf sb k) (h : ¬ (a7 < a6 ∧ ¬ a7 ≤ 0 ∧ a5 < z)) : ¬ burP n f pl sk sf sb k := by
  rw [e7, e6, e5, ez] at h
  exact fun q => h ⟨q.1, (nle0 (st1_bd hM hk)).mpr q.2.1, q.2.2⟩
theorem s2_y {n k : Nat} {f : Nat → Int32} {pl sk sf sb a7 lo : Int32} (hM : MI n f) (hk : k < n) (e7 : a7 = st1 f sk k) (el : lo = f 2) (h : burP n f pl sk sf sb k) : mx0 (a7 - lo) = st2 n f pl sk sf sb k := by
  rw [e7, el, mx_eq (st1_bd hM hk) (mi_lost hM)]
  unfold st2; rw [if_pos h]
theorem s2_n {n k : Nat} {f : Nat → Int32} {pl sk sf sb a7 : Int32} (e7 : a7 = st1 f sk k) (h : ¬ burP n f pl sk sf sb k) : a7 = st2 n f pl sk sf sb k := by
  rw [e7]; unfold st2; rw [if_neg h]
theorem SR_go {n : Nat} {m l o pl sk sf sb : Int32} {f1 f2 f3 f4 f5 f6 f7 f9 g3 g7 fa : Nat → Int32} (hn : n ≤ 10) (h : SR n m l o f1 f2 f3 f4 f5 f6 f7 f9 fa) (h3 : ∀ i, i < n → g3 i = hNw n fa pl sf sb i) (h7 : ∀ i, i < n → g7 i = st2 n fa pl sk sf sb i) : SR n (m + nI 1) l o f1 f2 g3 f4 f5 f6 g7 f9 (goF n fa pl sk sf sb) := by
  obtain ⟨a0, a1, a2, a3, a4⟩ := h
  have eo : ∀ j, j ≠ 1 → (j < 24 ∨ (34 ≤ j ∧ j < 64) ∨ 84 ≤ j) → goF n fa pl sk sf sb j = fa j := fun j h1 h2 => by
    unfold goF; rw [up_other h1]; exact md_other hn (Nat.le_refl _) h2
  refine ⟨(eo 0 (by decide) (by omega)).trans a0, ?_, (eo 2 (by decide) (by omega)).trans a2, (eo 3 (by decide) (by omega)).trans a3, fun i hi => ?_⟩
  · unfold goF; rw [up_same, a1]
  · obtain ⟨q1, q2, q3, q4, q5, q6, q7, q9⟩ := a4 i hi
    refine ⟨q1.trans (eo _ (by omega) (by omega)).symm, q2.trans (eo _ (by omega) (by omega)).symm, ?_, q4.trans (eo _ (by omega) (by omega)).symm, q5.trans (eo _ (by omega) (by omega)).symm, q6.trans (eo _ (by omega) (by omega)).symm, ?_, q9.trans (eo _ (by omega) (by omega)).symm⟩
    · rw [h3 i hi]; unfold goF md; rw [up_other (by omega), if_pos (by omega), show 24 + i - 24 = i by omega]
    · rw [h7 i hi]; unfold goF md; rw [up_other (by omega), if_neg (by omega), if_pos (by omega), show 64 + i - 64 = i by omega]

def q_isIn_f (T : Nat → ClassId) (x : Int32) (i : Nat) : Option Value → va_W → Prop := fun rr ww => (rr = some (.int (nI 1)) ∧ ww = [] ∧ bitP x i) ∨ (rr = some (.int (nI 0)) ∧ ww = [] ∧ ¬ bitP x i)
set_option maxHeartbeats 4000000 in
set_option maxRecDepth 100000 in
theorem c_isIn_f (l : Launch) (D : va_G) (T : Nat → ClassId) (x : Int32) (i : Nat) : Ct l yX7_isIn cX7_isIn 2 (some .boolean) 0 0 0 D T [.int x, .int (nI i)] [] (q_isIn_f T x i) := by
  refine Ct.of (cc := cX7_isIn) (maxL := 2) (ret := (some .boolean)) (by decide) (Nat.le_of_ble_eq_true rfl) ?_
  intro p e s m args below meth c A ls hC hnm V hl
  obtain ⟨hx, hb, hr, hml, hown, hts, hlocks⟩ := id hC
  generalize hH : s.heap = H at V ⊢
  clear hH
  have hl : lv_has ls 2 [(0, .int x), (1, .int (nI i))] := hl
  generalize hlo : ([] : List Loc) = locs at V ⊢
  clear hlo
  refine lv_iload_n hx hb dX7_isIn_0 rfl (lv_at hl 0 rfl) ?_
  refine lv_iload_n hx hb dX7_isIn_1 rfl (lv_at hl 1 rfl) ?_
  refine lv_ishr hx hb dX7_isIn_2 ?_
  refine lv_iconst (v := (nI 1)) hx hb dX7_isIn_3 (by decide +kernel) ?_
  refine lv_iand hx hb dX7_isIn_4 ?_
  refine lv_if_eq (tgt := 12) hx hb dX7_isIn_5 (by decide) (fun c_1 => ?_) (fun c_1 => ?_)
  · skip
    refine lv_iconst (v := (nI 0)) hx hb dX7_isIn_12 (by decide +kernel) ?_
    exact g_zret (Qr := (q_isIn_f T x i)) hC V ⟨(Nat.le_of_ble_eq_true rfl), (Nat.le_of_ble_eq_true rfl)⟩ (by first | decide +kernel | exact rfl) (.inr ⟨rfl, rfl, (fun h => h (by assumption))⟩) dX7_isIn_13
  · skip
    refine lv_iconst (v := (nI 1)) hx hb dX7_isIn_8 (by decide +kernel) ?_
    refine lv_goto (tgt := 13) hx hb dX7_isIn_9 (by decide) ?_
    exact g_zret (Qr := (q_isIn_f T x i)) hC V ⟨(Nat.le_of_ble_eq_true rfl), (Nat.le_of_ble_eq_true rfl)⟩ (by first | decide +kernel | exact rfl) (.inl ⟨rfl, rfl, (by assumption)⟩) dX7_isIn_13

def q_m_isIn_f (T : Nat → ClassId) (x : Int32) (i : Nat) : Option Value → va_W → Prop := fun rr ww => (rr = some (.int (nI 1)) ∧ ww = [] ∧ bitP x i) ∨ (rr = some (.int (nI 0)) ∧ ww = [] ∧ ¬ bitP x i)
set_option maxHeartbeats 4000000 in
set_option maxRecDepth 100000 in
theorem m_isIn_f (l : Launch) (D : va_G) (T : Nat → ClassId) (x : Int32) (i : Nat) (h_i : i < 13) : Ct l yX8_isIn cX8_isIn 3 (some .boolean) 0 0 0 D T [.long x.toInt64, .int (nI i)] [] (q_m_isIn_f T x i) := by
  refine Ct.of (cc := cX8_isIn) (maxL := 3) (ret := (some .boolean)) (by decide) (Nat.le_of_ble_eq_true rfl) ?_
  intro p e s m args below meth c A ls hC hnm V hl
  obtain ⟨hx, hb, hr, hml, hown, hts, hlocks⟩ := id hC
  generalize hH : s.heap = H at V ⊢
  clear hH
  have hl : lv_has ls 3 [(0, .long x.toInt64), (2, .int (nI i))] := hl
  generalize hlo : ([] : List Loc) = locs at V ⊢
  clear hlo
  refine lv_lload_n hx hb dX8_isIn_0 rfl (lv_at hl 0 rfl) ?_
  refine lv_iload_n hx hb dX8_isIn_1 rfl (lv_at hl 1 rfl) ?_
  refine lv_lshr hx hb dX8_isIn_2 rfl ?_
  refine lv_lconst (v := (nI 1).toInt64) hx hb dX8_isIn_3 (by decide +kernel) ?_
  refine lv_land hx hb dX8_isIn_4 ?_
  refine lv_lconst (v := (nI 1).toInt64) hx hb dX8_isIn_5 (by decide +kernel) ?_
  refine W.lcmp hx hb dX8_isIn_6 ?_
  refine lv_if_ne (tgt := 14) hx hb dX8_isIn_7 (by decide) (fun c_1 => ?_) (fun c_1 => ?_)
  · skip
    refine lv_iconst (v := (nI 0)) hx hb dX8_isIn_14 (by decide +kernel) ?_
    exact g_zret (Qr := (q_m_isIn_f T x i)) hC V ⟨(Nat.le_of_ble_eq_true rfl), (Nat.le_of_ble_eq_true rfl)⟩ (by first | decide +kernel | exact rfl) (.inr ⟨rfl, rfl, (fun h => absurd ((bit_m h_i).mpr h) (by assumption))⟩) dX8_isIn_15
  · skip
    refine lv_iconst (v := (nI 1)) hx hb dX8_isIn_10 (by decide +kernel) ?_
    refine lv_goto (tgt := 15) hx hb dX8_isIn_11 (by decide) ?_
    exact g_zret (Qr := (q_m_isIn_f T x i)) hC V ⟨(Nat.le_of_ble_eq_true rfl), (Nat.le_of_ble_eq_true rfl)⟩ (by first | decide +kernel | exact rfl) (.inl ⟨rfl, rfl, ((bit_m h_i).mp (by assumption))⟩) dX8_isIn_15

def q_bounded_f (T : Nat → ClassId) (x : Int32) : Option Value → va_W → Prop := fun rr ww => (∃ (z : Int32), rr = some (.int z) ∧ ww = [] ∧ z = ibf x)
set_option maxHeartbeats 4000000 in
set_option maxRecDepth 100000 in
theorem c_bounded_f (l : Launch) (D : va_G) (T : Nat → ClassId) (x : Int32) : Ct l yX7_bounded cX7_bounded 1 (some .int) 1 0 0 D T [.int x] [] (q_bounded_f T x) := by
  refine Ct.of (cc := cX7_bounded) (maxL := 1) (ret := (some .int)) (by decide) (Nat.le_of_ble_eq_true rfl) ?_
  intro p e s m args below meth c A ls hC hnm V hl
  obtain ⟨hx, hb, hr, hml, hown, hts, hlocks⟩ := id hC
  generalize hH : s.heap = H at V ⊢
  clear hH
  have hl : lv_has ls 1 [(0, .int x)] := hl
  generalize hlo : ([] : List Loc) = locs at V ⊢
  clear hlo
  refine lv_iconst (v := (nI 0)) hx hb dX7_bounded_0 (by decide +kernel) ?_
  refine lv_sipush (v := (nI 200)) hx hb dX7_bounded_1 (by decide +kernel) ?_
  refine lv_iload_n hx hb dX7_bounded_4 rfl (lv_at hl 0 rfl) ?_
  refine va_mmin hx hb (hml.trans hl.1.symm) hown (hts _ w_490) (hts _ w_300) (hts _ w_10) (hts _ w_301) (Nat.le_of_ble_eq_true rfl) (Nat.le_of_ble_eq_true rfl) (Nat.le_of_ble_eq_true rfl) (Nat.le_of_ble_eq_true rfl) dX7_bounded_5 ?_
  refine va_mmax hx hb (hml.trans hl.1.symm) hown (hts _ w_491) (hts _ w_392) (hts _ w_10) (hts _ w_393) (Nat.le_of_ble_eq_true rfl) (Nat.le_of_ble_eq_true rfl) (Nat.le_of_ble_eq_true rfl) (Nat.le_of_ble_eq_true rfl) dX7_bounded_8 ?_
  exact g_iret (Qr := (q_bounded_f T x)) hC V ⟨(Nat.le_of_ble_eq_true rfl), (Nat.le_of_ble_eq_true rfl)⟩ ⟨(if (nI 0) < (if x < (nI 200) then x else (nI 200)) then (if x < (nI 200) then x else (nI 200)) else (nI 0)), rfl, rfl, (bnd_eq x)⟩ dX7_bounded_11

theorem one_more {k : Nat} {g h : Nat → Int32} (H : ∀ i, i < k → g i = h i) (e : g k = h k) : ∀ i, i < k + 1 → g i = h i := by
  intro i hi
  by_cases c : i = k
  · rw [c]; exact e
  · exact H i (by omega)

def q_s_weigh_f (T : Nat → ClassId) (fa : Nat → Int32) (a0 : Nat) (pl : Int32) (an : Nat) (am : Int32) (al : Int32) (ao : Int32) (au : Int32) (a1 : Nat) (a2 : Nat) (a3 : Nat) (a4 : Nat) (a5 : Nat) (a6 : Nat) (a7 : Nat) (a8 : Nat) (a9 : Nat) (a10 : Nat) (af1 : Nat → Int32) (af2 : Nat → Int32) (af9 : Nat → Int32) (af10 : Nat → Int32) : Option Value → va_W → Prop := fun rr ww => (∃ (g10 : Nat → Int32), rr = none ∧ ww = [(a0, .inr (5, [.int (nI an), .int am, .int al, .int ao, .int au, .ref a1, .ref a2, .ref a3, .ref a4, .ref a5, .ref a6, .ref a7, .ref a8, .ref a9, .ref a10])), (a1, .inl (T 0, 10, .inl af1)), (a2, .inl (T 0, 10, .inl af2)), (a9, .inl (T 0, 10, .inl af9)), (a10, .inl (T 0, 10, .inl g10))] ∧ (∀ i, i < an → g10 i = -(fa (14 + i)) + bsF fa pl i an))
set_option maxHeartbeats 4000000 in
set_option maxRecDepth 100000 in
theorem s_weigh_f (l : Launch) (D : va_G) (T : Nat → ClassId) (fa : Nat → Int32) (a0 : Nat) (pl : Int32) (an : Nat) (am : Int32) (al : Int32) (ao : Int32) (au : Int32) (a1 : Nat) (a2 : Nat) (a3 : Nat) (a4 : Nat) (a5 : Nat) (a6 : Nat) (a7 : Nat) (a8 : Nat) (a9 : Nat) (a10 : Nat) (af1 : Nat → Int32) (af2 : Nat → Int32) (af9 : Nat → Int32) (af10 : Nat → Int32) (h_n : an ≤ 10) (h_t : ∀ i, i < an → bd (af9 i) an) (h_s1 : ∀ i, i < an → af1 i = fa (4 + i)) (h_s2 : ∀ i, i < an → af2 i = fa (14 + i)) (h_s9 : ∀ i, i < an → af9 i = fa (84 + i)) : Ct l yX5_weighChanges cX5_weighChanges 3 none 1 0 0 D T [.ref a0, .int pl] [(a0, .inr (5, [.int (nI an), .int am, .int al, .int ao, .int au, .ref a1, .ref a2, .ref a3, .ref a4, .ref a5, .ref a6, .ref a7, .ref a8, .ref a9, .ref a10])), (a1, .inl (T 0, 10, .inl af1)), (a2, .inl (T 0, 10, .inl af2)), (a9, .inl (T 0, 10, .inl af9)), (a10, .inl (T 0, 10, .inl af10))] (q_s_weigh_f T fa a0 pl an am al ao au a1 a2 a3 a4 a5 a6 a7 a8 a9 a10 af1 af2 af9 af10) := by
  refine Ct.of (cc := cX5_weighChanges) (maxL := 3) (ret := none) (by decide) (Nat.le_of_ble_eq_true rfl) ?_
  intro p e s m args below meth c A ls hC hnm V hl
  obtain ⟨hx, hb, hr, hml, hown, hts, hlocks⟩ := id hC
  generalize hH : s.heap = H at V ⊢
  clear hH
  have hl : lv_has ls 3 [(0, .ref a0), (1, .int pl)] := hl
  generalize hlo : ([] : List Loc) = locs at V ⊢
  clear hlo
  refine lv_iconst (v := (nI 0)) hx hb dX5_weighChanges_0 (by decide +kernel) ?_
  refine lv_istore_n (lv' := [(2, .int (nI 0)), (0, .ref a0), (1, .int pl)]) hx hb dX5_weighChanges_1 rfl hl (by decide) rfl (fun ls hl => ?_)
  have L_1 : ∀ (fu : Nat) (k2 : Nat) (gc : Nat → Int32), k2 ≤ an → (∀ i, i < k2 → gc i = -(fa (14 + i))) → an - k2 < fu → ∀ (H : Heap) (locs : List Loc) (ls : Array Slot), gW D T A s [(a0, .inr (5, [.int (nI an), .int am, .int al, .int ao, .int au, .ref a1, .ref a2, .ref a3, .ref a4, .ref a5, .ref a6, .ref a7, .ref a8, .ref a9, .ref a10])), (a1, .inl (T 0, 10, .inl af1)), (a2, .inl (T 0, 10, .inl af2)), (a9, .inl (T 0, 10, .inl af9)), (a10, .inl (T 0, 10, .inl gc))] H locs → lv_has ls 3 [(2, .int (nI k2)), (0, .ref a0), (1, .int pl)] → W p l e (rmD 1 0 0) s m args below meth c H locs 0 0 (MQ below (gQ D A (q_s_weigh_f T fa a0 pl an am al ao au a1 a2 a3 a4 a5 a6 a7 a8 a9 a10 af1 af2 af9 af10)) args s 0 0 A) (F0 m 2 ls []) := by
    intro fu_2
    induction fu_2 with
    | zero => intro k2 gc hk2 hc2 hmu; exact absurd hmu (Nat.not_lt_zero _)
    | succ fu_2 ih_2 =>
      intro k2 gc hk2 hc2 hmu_2 H locs ls V hl
      refine lv_iload_n hx hb dX5_weighChanges_2 rfl (lv_at hl 0 rfl) ?_
      refine lv_aload_n hx hb dX5_weighChanges_3 rfl (lv_at hl 1 rfl) ?_
      refine g_get hC V (ci := 5) uwX5 0 rfl rfl 0 (by decide) w_33 rfl rfl dX5_weighChanges_4 ?_
      refine lv_icmp_ge (tgt := 29) hx hb dX5_weighChanges_7 (by decide) (fun c_2 => ?_) (fun c_2 => ?_)
      · skip
        have c_2 := b_le (by omega) (by omega) c_2
        refine lv_iconst (v := (nI 0)) hx hb dX5_weighChanges_29 (by decide +kernel) ?_
        refine lv_istore_n (lv' := [(2, .int (nI 0)), (0, .ref a0), (1, .int pl)]) hx hb dX5_weighChanges_30 rfl hl (by decide) rfl (fun ls hl => ?_)
        have L_3 : ∀ (fu : Nat) (k31 : Nat) (gd : Nat → Int32), k31 ≤ an → (∀ i, i < an → gd i = -(fa (14 + i)) + bsF fa pl i k31) → an - k31 < fu → ∀ (H : Heap) (locs : List Loc) (ls : Array Slot), gW D T A s [(a0, .inr (5, [.int (nI an), .int am, .int al, .int ao, .int au, .ref a1, .ref a2, .ref a3, .ref a4, .ref a5, .ref a6, .ref a7, .ref a8, .ref a9, .ref a10])), (a1, .inl (T 0, 10, .inl af1)), (a2, .inl (T 0, 10, .inl af2)), (a9, .inl (T 0, 10, .inl af9)), (a10, .inl (T 0, 10, .inl gd))] H locs → lv_has ls 3 [(2, .int (nI k31)), (0, .ref a0), (1, .int pl)] → W p l e (rmD 1 0 0) s m args below meth c H locs 0 0 (MQ below (gQ D A (q_s_weigh_f T fa a0 pl an am al ao au a1 a2 a3 a4 a5 a6 a7 a8 a9 a10 af1 af2 af9 af10)) args s 0 0 A) (F0 m 31 ls []) := by
          intro fu_31
          induction fu_31 with
          | zero => intro k31 gd hk31 hd31 hmu; exact absurd hmu (Nat.not_lt_zero _)
          | succ fu_31 ih_31 =>
            intro k31 gd hk31 hd31 hmu_31 H locs ls V hl
            refine lv_iload_n hx hb dX5_weighChanges_31 rfl (lv_at hl 0 rfl) ?_
            refine lv_aload_n hx hb dX5_weighChanges_32 rfl (lv_at hl 1 rfl) ?_
            refine g_get hC V (ci := 5) uwX5 0 rfl rfl 0 (by decide) w_33 rfl rfl dX5_weighChanges_33 ?_
            refine lv_icmp_ge (tgt := 73) hx hb dX5_weighChanges_36 (by decide) (fun c_4 => ?_) (fun c_4 => ?_)
            · skip
              have c_4 := b_le (by omega) (by omega) c_4
              exact g_vret (Qr := (q_s_weigh_f T fa a0 pl an am al ao au a1 a2 a3 a4 a5 a6 a7 a8 a9 a10 af1 af2 af9 af10)) hC V ⟨(Nat.le_of_ble_eq_true rfl), (Nat.le_of_ble_eq_true rfl)⟩ ⟨gd, rfl, rfl, (fun i hi => by rw [hd31 i hi]; congr 2; omega)⟩ dX5_weighChanges_73
            · skip
              have c_4 := b_nle (by omega) (by omega) c_4
              refine lv_iload_n hx hb dX5_weighChanges_39 rfl (lv_at hl 2 rfl) ?_
              refine lv_iload_n hx hb dX5_weighChanges_40 rfl (lv_at hl 0 rfl) ?_
              refine g_callSNU (nA := 2) (host := RX7) hC V hl.1 (c_isIn_f l D T pl k31) w_472 (List.mem_of_getElem? (i := 13) rfl) w_2 w_471 (by decide +kernel) rfl ⟨(Nat.le_of_ble_eq_true rfl), (Nat.le_of_ble_eq_true rfl)⟩ [] rfl rfl (Nat.le_of_ble_eq_true rfl) dX5_weighChanges_41 ⟨(Nat.le_of_ble_eq_true rfl), (Nat.le_of_ble_eq_true rfl)⟩ rfl (fun r w1 H locs hQ V => ?_)
              rcases hQ with ⟨rfl, rfl, f_5⟩ | ⟨rfl, rfl, f_6⟩
              · have V : gW D T A s [(a0, .inr (5, [.int (nI an), .int am, .int al, .int ao, .int au, .ref a1, .ref a2, .ref a3, .ref a4, .ref a5, .ref a6, .ref a7, .ref a8, .ref a9, .ref a10])), (a1, .inl (T 0, 10, .inl af1)), (a2, .inl (T 0, 10, .inl af2)), (a9, .inl (T 0, 10, .inl af9)), (a10, .inl (T 0, 10, .inl gd))] H locs := V _ [] rfl rfl rfl (by decide +kernel) rfl
                show W p l e _ s m args below meth c H locs _ _ _ (F0 m 44 ls [.int (nI 1)])
                refine lv_if_eq (tgt := 67) hx hb dX5_weighChanges_44 (by decide) (fun c => absurd (show (nI 1) = 0 from c) (by decide +kernel)) (fun _ => ?_)
                refine lv_aload_n hx hb dX5_weighChanges_47 rfl (lv_at hl 1 rfl) ?_
                refine g_get hC V (ci := 5) uwX5 0 rfl rfl 14 (by decide) w_86 rfl rfl dX5_weighChanges_48 ?_
                refine lv_aload_n hx hb dX5_weighChanges_51 rfl (lv_at hl 1 rfl) ?_
                refine g_get hC V (ci := 5) uwX5 0 rfl rfl 13 (by decide) w_82 rfl rfl dX5_weighChanges_52 ?_
                refine lv_iload_n hx hb dX5_weighChanges_55 rfl (lv_at hl 0 rfl) ?_
                obtain ⟨j_7, hj_7, ej_7⟩ := bd_ex (h_t k31 (by omega))
                refine g_iald hC V 3 rfl (vp_in_nI (by omega) (by omega)) (v := (nI j_7)) (by rw [nI_clamp (by omega)]; exact ej_7) dX5_weighChanges_56 ?_
                refine lv_dup2_11 hx hb dX5_weighChanges_57 rfl rfl ?_
                refine g_iald hC V 4 rfl (vp_in_nI (by omega) (by omega)) (v := (gd j_7)) (congrArg _ (nI_clamp (by omega))) dX5_weighChanges_58 ?_
                refine lv_aload_n hx hb dX5_weighChanges_59 rfl (lv_at hl 1 rfl) ?_
                refine g_get hC V (ci := 5) uwX5 0 rfl rfl 5 (by decide) w_51 rfl rfl dX5_weighChanges_60 ?_
                refine lv_iload_n hx hb dX5_weighChanges_63 rfl (lv_at hl 0 rfl) ?_
                refine g_iald hC V 1 rfl (vp_in_nI (by omega) (by omega)) (v := (af1 k31)) (congrArg _ (nI_clamp (by omega))) dX5_weighChanges_64 ?_
                refine lv_iadd hx hb dX5_weighChanges_65 ?_
                refine g_iast hC V 4 rfl (vp_in_nI (by omega) (by omega)) (f' := (upd gd j_7 ((gd j_7) + (af1 k31)))) (by rw [nI_clamp (by omega)]) (ws' := [(a0, .inr (5, [.int (nI an), .int am, .int al, .int ao, .int au, .ref a1, .ref a2, .ref a3, .ref a4, .ref a5, .ref a6, .ref a7, .ref a8, .ref a9, .ref a10])), (a1, .inl (T 0, 10, .inl af1)), (a2, .inl (T 0, 10, .inl af2)), (a9, .inl (T 0, 10, .inl af9)), (a10, .inl (T 0, 10, .inl (upd gd j_7 ((gd j_7) + (af1 k31)))))]) rfl dX5_weighChanges_66 (fun H locs V => ?_)
                refine lv_iinc (v := (nI (k31 + 1))) (lv' := [(2, .int (nI (k31 + 1))), (0, .ref a0), (1, .int pl)]) hx hb dX5_weighChanges_67 hl (k := 0) rfl (nI_1 _) (by decide) rfl (fun ls hl => ?_)
                refine lv_goto (tgt := 31) hx hb dX5_weighChanges_70 (by decide) ?_
                exact ih_31 (k31 + 1) (upd gd j_7 ((gd j_7) + (af1 k31))) (by omega) (wc_y h_n hd31 f_5 ((h_s9 _ (by omega)).symm.trans ej_7) (by omega) (h_s1 _ (by omega))) (by omega) _ _ _ V (lv_sub hl [0, 1, 2] rfl)
              · have V : gW D T A s [(a0, .inr (5, [.int (nI an), .int am, .int al, .int ao, .int au, .ref a1, .ref a2, .ref a3, .ref a4, .ref a5, .ref a6, .ref a7, .ref a8, .ref a9, .ref a10])), (a1, .inl (T 0, 10, .inl af1)), (a2, .inl (T 0, 10, .inl af2)), (a9, .inl (T 0, 10, .inl af9)), (a10, .inl (T 0, 10, .inl gd))] H locs := V _ [] rfl rfl rfl (by decide +kernel) rfl
                show W p l e _ s m args below meth c H locs _ _ _ (F0 m 44 ls [.int (nI 0)])
                refine lv_if_eq (tgt := 67) hx hb dX5_weighChanges_44 (by decide) (fun _ => ?_) (fun c => absurd (show (nI 0) = 0 by decide +kernel) c)
                refine lv_iinc (v := (nI (k31 + 1))) (lv' := [(2, .int (nI (k31 + 1))), (0, .ref a0), (1, .int pl)]) hx hb dX5_weighChanges_67 hl (k := 0) rfl (nI_1 _) (by decide) rfl (fun ls hl => ?_)
                refine lv_goto (tgt := 31) hx hb dX5_weighChanges_70 (by decide) ?_
                exact ih_31 (k31 + 1) gd (by omega) (wc_n hd31 f_6) (by omega) _ _ _ V (lv_sub hl [0, 1, 2] rfl)
        exact L_3 _ 0 gc (by omega) (wc_0 (fun i hi => hc2 i (by omega))) (Nat.lt_succ_self _) _ _ _ V (lv_sub hl [0, 1, 2] rfl)
      · skip
        have c_2 := b_nle (by omega) (by omega) c_2
        refine lv_aload_n hx hb dX5_weighChanges_10 rfl (lv_at hl 1 rfl) ?_
        refine g_get hC V (ci := 5) uwX5 0 rfl rfl 14 (by decide) w_86 rfl rfl dX5_weighChanges_11 ?_
        refine lv_iload_n hx hb dX5_weighChanges_14 rfl (lv_at hl 0 rfl) ?_
        refine lv_aload_n hx hb dX5_weighChanges_15 rfl (lv_at hl 1 rfl) ?_
        refine g_get hC V (ci := 5) uwX5 0 rfl rfl 6 (by decide) w_56 rfl rfl dX5_weighChanges_16 ?_
        refine lv_iload_n hx hb dX5_weighChanges_19 rfl (lv_at hl 0 rfl) ?_
        refine g_iald hC V 2 rfl (vp_in_nI (by omega) (by omega)) (v := (af2 k2)) (congrArg _ (nI_clamp (by omega))) dX5_weighChanges_20 ?_
        refine lv_ineg hx hb dX5_weighChanges_21 ?_
        refine g_iast hC V 4 rfl (vp_in_nI (by omega) (by omega)) (f' := (upd gc k2 (-(af2 k2)))) (by rw [nI_clamp (by omega)]) (ws' := [(a0, .inr (5, [.int (nI an), .int am, .int al, .int ao, .int au, .ref a1, .ref a2, .ref a3, .ref a4, .ref a5, .ref a6, .ref a7, .ref a8, .ref a9, .ref a10])), (a1, .inl (T 0, 10, .inl af1)), (a2, .inl (T 0, 10, .inl af2)), (a9, .inl (T 0, 10, .inl af9)), (a10, .inl (T 0, 10, .inl (upd gc k2 (-(af2 k2)))))]) rfl dX5_weighChanges_22 (fun H locs V => ?_)
        refine lv_iinc (v := (nI (k2 + 1))) (lv' := [(2, .int (nI (k2 + 1))), (0, .ref a0), (1, .int pl)]) hx hb dX5_weighChanges_23 hl (k := 0) rfl (nI_1 _) (by decide) rfl (fun ls hl => ?_)
        refine lv_goto (tgt := 2) hx hb dX5_weighChanges_26 (by decide) ?_
        exact ih_2 (k2 + 1) (upd gc k2 (-(af2 k2))) (by omega) (up_one (p := fun i x => x = -(fa (14 + i))) hc2 (by rw [h_s2 _ (by omega)])) (by omega) _ _ _ V (lv_sub hl [0, 1, 2] rfl)
  exact L_1 _ 0 af10 (by omega) (fun i h => absurd h (Nat.not_lt_zero _)) (Nat.lt_succ_self _) _ _ _ V (lv_sub hl [0, 1, 2] rfl)

def q_m_isWarm_f (T : Nat → ClassId) (o : Nat) (j : Nat) (w0 : Int32) (g1 : Nat) (g2 : Nat) (g3 : Nat) (g4 : Nat) (tp : Nat) (w6 : Int32) (w7 : Int32) (w8 : Int32) (w9 : Int32) (w10 : Int32) (w11 : Int32) (w12 : Int32) (w13 : Int32) (w14 : Int32) (g15 : Nat) (w16 : Int32) (g17 : Nat) (w18 : Int32) (w19 : Int32) (g20 : Nat) (w21 : Int32) (g22 : Nat) (g23 : Nat) (g24 : Nat) (w25 : Int32) (w26 : Int32) (w27 : Int32) (g28 : Nat) (g29 : Nat) (w30 : Int32) (g31 : Nat) (g32 : Nat) (g33 : Nat) (fa : Nat → Int32) : Option Value → va_W → Prop := fun rr ww => (rr = some (.int (nI 1)) ∧ ww = [(o, .inr (8, [.int w0, .ref g1, .ref g2, .ref g3, .ref g4, .int (nI tp), .int w6, .int w7, .int w8, .int w9, .int w10, .int w11, .int w12, .int w13, .int w14, .ref g15, .int w16, .ref g17, .int w18, .int w19, .ref g20, .int w21, .ref g22, .ref g23, .ref g24, .int w25, .int w26, .int w27, .ref g28, .ref g29, .int w30, .ref g31, .ref g32, .ref g33])), (g1, .inl (T 0, 282, .inl fa))] ∧ warmP fa j) ∨ (rr = some (.int (nI 0)) ∧ ww = [(o, .inr (8, [.int w0, .ref g1, .ref g2, .ref g3, .ref g4, .int (nI tp), .int w6, .int w7, .int w8, .int w9, .int w10, .int w11, .int w12, .int w13, .int w14, .ref g15, .int w16, .ref g17, .int w18, .int w19, .ref g20, .int w21, .ref g22, .ref g23, .ref g24, .int w25, .int w26, .int w27, .ref g28, .ref g29, .int w30, .ref g31, .ref g32, .ref g33])), (g1, .inl (T 0, 282, .inl fa))] ∧ ¬ warmP fa j)
set_option maxHeartbeats 4000000 in
set_option maxRecDepth 100000 in
theorem m_isWarm_f (l : Launch) (D : va_G) (T : Nat → ClassId) (o : Nat) (j : Nat) (w0 : Int32) (g1 : Nat) (g2 : Nat) (g3 : Nat) (g4 : Nat) (tp : Nat) (w6 : Int32) (w7 : Int32) (w8 : Int32) (w9 : Int32) (w10 : Int32) (w11 : Int32) (w12 : Int32) (w13 : Int32) (w14 : Int32) (g15 : Nat) (w16 : Int32) (g17 : Nat) (w18 : Int32) (w19 : Int32) (g20 : Nat) (w21 : Int32) (g22 : Nat) (g23 : Nat) (g24 : Nat) (w25 : Int32) (w26 : Int32) (w27 : Int32) (g28 : Nat) (g29 : Nat) (w30 : Int32) (g31 : Nat) (g32 : Nat) (g33 : Nat) (fa : Nat → Int32) (h_j : j < 10) : Ct l yX8_isWarm cX8_isWarm 2 (some .boolean) 0 0 0 D T [.ref o, .int (nI j)] [(o, .inr (8, [.int w0, .ref g1, .ref g2, .ref g3, .ref g4, .int (nI tp), .int w6, .int w7, .int w8, .int w9, .int w10, .int w11, .int w12, .int w13, .int w14, .ref g15, .int w16, .ref g17, .int w18, .int w19, .ref g20, .int w21, .ref g22, .ref g23, .ref g24, .int w25, .int w26, .int w27, .ref g28, .ref g29, .int w30, .ref g31, .ref g32, .ref g33])), (g1, .inl (T 0, 282, .inl fa))] (q_m_isWarm_f T o j w0 g1 g2 g3 g4 tp w6 w7 w8 w9 w10 w11 w12 w13 w14 g15 w16 g17 w18 w19 g20 w21 g22 g23 g24 w25 w26 w27 g28 g29 w30 g31 g32 g33 fa) := by
  refine Ct.of (cc := cX8_isWarm) (maxL := 2) (ret := (some .boolean)) (by decide) (Nat.le_of_ble_eq_true rfl) ?_
  intro p e s m args below meth c A ls hC hnm V hl
  obtain ⟨hx, hb, hr, hml, hown, hts, hlocks⟩ := id hC
  generalize hH : s.heap = H at V ⊢
  clear hH
  have hl : lv_has ls 2 [(0, .ref o), (1, .int (nI j))] := hl
  generalize hlo : ([] : List Loc) = locs at V ⊢
  clear hlo
  refine lv_aload_n hx hb dX8_isWarm_0 rfl (lv_at hl 0 rfl) ?_
  refine g_get hC V (ci := 8) uwX8 0 rfl rfl 1 (by decide) w_913 rfl rfl dX8_isWarm_1 ?_
  refine lv_bipush (v := (nI 24)) hx hb dX8_isWarm_4 (by decide +kernel) ?_
  refine lv_iload_n hx hb dX8_isWarm_6 rfl (lv_at hl 1 rfl) ?_
  refine lv_iadd hx hb dX8_isWarm_7 ?_
  refine g_vi (y := (nI (24 + j))) (nI_add _ _) ?_
  refine g_iald hC V 1 rfl (vp_in_nI (by omega) (by omega)) (v := (fa (24 + j))) (congrArg _ (nI_clamp (by omega))) dX8_isWarm_8 ?_
  refine lv_aload_n hx hb dX8_isWarm_9 rfl (lv_at hl 0 rfl) ?_
  refine g_get hC V (ci := 8) uwX8 0 rfl rfl 1 (by decide) w_913 rfl rfl dX8_isWarm_10 ?_
  refine lv_bipush (v := (nI 34)) hx hb dX8_isWarm_13 (by decide +kernel) ?_
  refine lv_iload_n hx hb dX8_isWarm_15 rfl (lv_at hl 1 rfl) ?_
  refine lv_iadd hx hb dX8_isWarm_16 ?_
  refine g_vi (y := (nI (34 + j))) (nI_add _ _) ?_
  refine g_iald hC V 1 rfl (vp_in_nI (by omega) (by omega)) (v := (fa (34 + j))) (congrArg _ (nI_clamp (by omega))) dX8_isWarm_17 ?_
  refine lv_icmp_lt (tgt := 46) hx hb dX8_isWarm_18 (by decide) (fun c_1 => ?_) (fun c_1 => ?_)
  · skip
    refine lv_iconst (v := (nI 0)) hx hb dX8_isWarm_46 (by decide +kernel) ?_
    exact g_zret (Qr := (q_m_isWarm_f T o j w0 g1 g2 g3 g4 tp w6 w7 w8 w9 w10 w11 w12 w13 w14 g15 w16 g17 w18 w19 g20 w21 g22 g23 g24 w25 w26 w27 g28 g29 w30 g31 g32 g33 fa)) hC V ⟨(Nat.le_of_ble_eq_true rfl), (Nat.le_of_ble_eq_true rfl)⟩ (by first | decide +kernel | exact rfl) (.inr ⟨rfl, rfl, (by first | exact fun h => h.1 (by assumption) | exact fun h => h.2 (by assumption))⟩) dX8_isWarm_47
  · skip
    refine lv_aload_n hx hb dX8_isWarm_21 rfl (lv_at hl 0 rfl) ?_
    refine g_get hC V (ci := 8) uwX8 0 rfl rfl 1 (by decide) w_913 rfl rfl dX8_isWarm_22 ?_
    refine lv_bipush (v := (nI 24)) hx hb dX8_isWarm_25 (by decide +kernel) ?_
    refine lv_iload_n hx hb dX8_isWarm_27 rfl (lv_at hl 1 rfl) ?_
    refine lv_iadd hx hb dX8_isWarm_28 ?_
    refine g_vi (y := (nI (24 + j))) (nI_add _ _) ?_
    refine g_iald hC V 1 rfl (vp_in_nI (by omega) (by omega)) (v := (fa (24 + j))) (congrArg _ (nI_clamp (by omega))) dX8_isWarm_29 ?_
    refine lv_aload_n hx hb dX8_isWarm_30 rfl (lv_at hl 0 rfl) ?_
    refine g_get hC V (ci := 8) uwX8 0 rfl rfl 1 (by decide) w_913 rfl rfl dX8_isWarm_31 ?_
    refine lv_bipush (v := (nI 44)) hx hb dX8_isWarm_34 (by decide +kernel) ?_
    refine lv_iload_n hx hb dX8_isWarm_36 rfl (lv_at hl 1 rfl) ?_
    refine lv_iadd hx hb dX8_isWarm_37 ?_
    refine g_vi (y := (nI (44 + j))) (nI_add _ _) ?_
    refine g_iald hC V 1 rfl (vp_in_nI (by omega) (by omega)) (v := (fa (44 + j))) (congrArg _ (nI_clamp (by omega))) dX8_isWarm_38 ?_
    refine lv_icmp_gt (tgt := 46) hx hb dX8_isWarm_39 (by decide) (fun c_2 => ?_) (fun c_2 => ?_)
    · skip
      refine lv_iconst (v := (nI 0)) hx hb dX8_isWarm_46 (by decide +kernel) ?_
      exact g_zret (Qr := (q_m_isWarm_f T o j w0 g1 g2 g3 g4 tp w6 w7 w8 w9 w10 w11 w12 w13 w14 g15 w16 g17 w18 w19 g20 w21 g22 g23 g24 w25 w26 w27 g28 g29 w30 g31 g32 g33 fa)) hC V ⟨(Nat.le_of_ble_eq_true rfl), (Nat.le_of_ble_eq_true rfl)⟩ (by first | decide +kernel | exact rfl) (.inr ⟨rfl, rfl, (by first | exact fun h => h.1 (by assumption) | exact fun h => h.2 (by assumption))⟩) dX8_isWarm_47
    · skip
      refine lv_iconst (v := (nI 1)) hx hb dX8_isWarm_42 (by decide +kernel) ?_
      refine lv_goto (tgt := 47) hx hb dX8_isWarm_43 (by decide) ?_
      exact g_zret (Qr := (q_m_isWarm_f T o j w0 g1 g2 g3 g4 tp w6 w7 w8 w9 w10 w11 w12 w13 w14 g15 w16 g17 w18 w19 g20 w21 g22 g23 g24 w25 w26 w27 g28 g29 w30 g31 g32 g33 fa)) hC V ⟨(Nat.le_of_ble_eq_true rfl), (Nat.le_of_ble_eq_true rfl)⟩ (by first | decide +kernel | exact rfl) (.inl ⟨rfl, rfl, ⟨by assumption, by assumption⟩⟩) dX8_isWarm_47

def q_m_heatThen_f (T : Nat → ClassId) (n : Nat) (o : Nat) (j : Nat) (pl : Int32) (mr : Int32) (w0 : Int32) (g1 : Nat) (g2 : Nat) (g3 : Nat) (g4 : Nat) (tp : Nat) (w6 : Int32) (w7 : Int32) (w8 : Int32) (w9 : Int32) (w10 : Int32) (w11 : Int32) (w12 : Int32) (w13 : Int32) (w14 : Int32) (g15 : Nat) (w16 : Int32) (g17 : Nat) (w18 : Int32) (w19 : Int32) (g20 : Nat) (w21 : Int32) (g22 : Nat) (g23 : Nat) (g24 : Nat) (w25 : Int32) (w26 : Int32) (w27 : Int32) (g28 : Nat) (g29 : Nat) (w30 : Int32) (g31 : Nat) (g32 : Nat) (g33 : Nat) (fa : Nat → Int32) : Option Value → va_W → Prop := fun rr ww => (∃ (z : Int32), rr = some (.int z) ∧ ww = [(o, .inr (8, [.int w0, .ref g1, .ref g2, .ref g3, .ref g4, .int (nI tp), .int w6, .int w7, .int w8, .int w9, .int w10, .int w11, .int w12, .int w13, .int w14, .ref g15, .int w16, .ref g17, .int w18, .int w19, .ref g20, .int w21, .ref g22, .ref g23, .ref g24, .int w25, .int w26, .int w27, .ref g28, .ref g29, .int w30, .ref g31, .ref g32, .ref g33])), (g1, .inl (T 0, 282, .inl fa))] ∧ bd z 201 ∧ z = ibf (fa (24 + j) + mr - fa (14 + j) + bsF fa pl j n))
set_option maxHeartbeats 4000000 in
set_option maxRecDepth 100000 in
theorem m_heatThen_f (l : Launch) (D : va_G) (T : Nat → ClassId) (n : Nat) (o : Nat) (j : Nat) (pl : Int32) (mr : Int32) (w0 : Int32) (g1 : Nat) (g2 : Nat) (g3 : Nat) (g4 : Nat) (tp : Nat) (w6 : Int32) (w7 : Int32) (w8 : Int32) (w9 : Int32) (w10 : Int32) (w11 : Int32) (w12 : Int32) (w13 : Int32) (w14 : Int32) (g15 : Nat) (w16 : Int32) (g17 : Nat) (w18 : Int32) (w19 : Int32) (g20 : Nat) (w21 : Int32) (g22 : Nat) (g23 : Nat) (g24 : Nat) (w25 : Int32) (w26 : Int32) (w27 : Int32) (g28 : Nat) (g29 : Nat) (w30 : Int32) (g31 : Nat) (g32 : Nat) (g33 : Nat) (fa : Nat → Int32) (h_a : MI n fa) (h_j : j < n) : Ct l yX8_heatThen cX8_heatThen 6 (some .int) 1 0 0 D T [.ref o, .int (nI j), .int pl, .int mr] [(o, .inr (8, [.int w0, .ref g1, .ref g2, .ref g3, .ref g4, .int (nI tp), .int w6, .int w7, .int w8, .int w9, .int w10, .int w11, .int w12, .int w13, .int w14, .ref g15, .int w16, .ref g17, .int w18, .int w19, .ref g20, .int w21, .ref g22, .ref g23, .ref g24, .int w25, .int w26, .int w27, .ref g28, .ref g29, .int w30, .ref g31, .ref g32, .ref g33])), (g1, .inl (T 0, 282, .inl fa))] (q_m_heatThen_f T n o j pl mr w0 g1 g2 g3 g4 tp w6 w7 w8 w9 w10 w11 w12 w13 w14 g15 w16 g17 w18 w19 g20 w21 g22 g23 g24 w25 w26 w27 g28 g29 w30 g31 g32 g33 fa) := by
  refine Ct.of (cc := cX8_heatThen) (maxL := 6) (ret := (some .int)) (by decide) (Nat.le_of_ble_eq_true rfl) ?_
  intro p e s m args below meth c A ls hC hnm V hl
  obtain ⟨hx, hb, hr, hml, hown, hts, hlocks⟩ := id hC
  generalize hH : s.heap = H at V ⊢
  clear hH
  have hl : lv_has ls 6 [(0, .ref o), (1, .int (nI j)), (2, .int pl), (3, .int mr)] := hl
  generalize hlo : ([] : List Loc) = locs at V ⊢
  clear hlo
  have hn10 := h_a.1
  refine lv_aload_n hx hb dX8_heatThen_0 rfl (lv_at hl 0 rfl) ?_
  refine g_get hC V (ci := 8) uwX8 0 rfl rfl 1 (by decide) w_913 rfl rfl dX8_heatThen_1 ?_
  refine lv_bipush (v := (nI 24)) hx hb dX8_heatThen_4 (by decide +kernel) ?_
  refine lv_iload_n hx hb dX8_heatThen_6 rfl (lv_at hl 1 rfl) ?_
  refine lv_iadd hx hb dX8_heatThen_7 ?_
  refine g_vi (y := (nI (24 + j))) (nI_add _ _) ?_
  refine g_iald hC V 1 rfl (vp_in_nI (by omega) (by omega)) (v := (fa (24 + j))) (congrArg _ (nI_clamp (by omega))) dX8_heatThen_8 ?_
  refine lv_iload_n hx hb dX8_heatThen_9 rfl (lv_at hl 3 rfl) ?_
  refine lv_iadd hx hb dX8_heatThen_10 ?_
  refine lv_aload_n hx hb dX8_heatThen_11 rfl (lv_at hl 0 rfl) ?_
  refine g_get hC V (ci := 8) uwX8 0 rfl rfl 1 (by decide) w_913 rfl rfl dX8_heatThen_12 ?_
  refine lv_bipush (v := (nI 14)) hx hb dX8_heatThen_15 (by decide +kernel) ?_
  refine lv_iload_n hx hb dX8_heatThen_17 rfl (lv_at hl 1 rfl) ?_
  refine lv_iadd hx hb dX8_heatThen_18 ?_
  refine g_vi (y := (nI (14 + j))) (nI_add _ _) ?_
  refine g_iald hC V 1 rfl (vp_in_nI (by omega) (by omega)) (v := (fa (14 + j))) (congrArg _ (nI_clamp (by omega))) dX8_heatThen_19 ?_
  refine lv_isub hx hb dX8_heatThen_20 ?_
  refine lv_istore (lv' := [(4, .int (((fa (24 + j)) + mr) - (fa (14 + j)))), (0, .ref o), (1, .int (nI j)), (2, .int pl), (3, .int mr)]) hx hb dX8_heatThen_21 hl (by decide) rfl (fun ls hl => ?_)
  refine lv_iconst (v := (nI 0)) hx hb dX8_heatThen_23 (by decide +kernel) ?_
  refine lv_istore (lv' := [(5, .int (nI 0)), (4, .int (((fa (24 + j)) + mr) - (fa (14 + j)))), (0, .ref o), (1, .int (nI j)), (2, .int pl), (3, .int mr)]) hx hb dX8_heatThen_24 hl (by decide) rfl (fun ls hl => ?_)
  have L_1 : ∀ (fu : Nat) (k26 : Nat) (hv : Int32), k26 ≤ n → hv = fa (24 + j) + mr - fa (14 + j) + bsF fa pl j k26 → n - k26 < fu → ∀ (H : Heap) (locs : List Loc) (ls : Array Slot), gW D T A s [(o, .inr (8, [.int w0, .ref g1, .ref g2, .ref g3, .ref g4, .int (nI tp), .int w6, .int w7, .int w8, .int w9, .int w10, .int w11, .int w12, .int w13, .int w14, .ref g15, .int w16, .ref g17, .int w18, .int w19, .ref g20, .int w21, .ref g22, .ref g23, .ref g24, .int w25, .int w26, .int w27, .ref g28, .ref g29, .int w30, .ref g31, .ref g32, .ref g33])), (g1, .inl (T 0, 282, .inl fa))] H locs → lv_has ls 6 [(5, .int (nI k26)), (4, .int hv), (0, .ref o), (1, .int (nI j)), (2, .int pl), (3, .int mr)] → W p l e (rmD 1 0 0) s m args below meth c H locs 0 0 (MQ below (gQ D A (q_m_heatThen_f T n o j pl mr w0 g1 g2 g3 g4 tp w6 w7 w8 w9 w10 w11 w12 w13 w14 g15 w16 g17 w18 w19 g20 w21 g22 g23 g24 w25 w26 w27 g28 g29 w30 g31 g32 g33 fa)) args s 0 0 A) (F0 m 26 ls []) := by
    intro fu_26
    induction fu_26 with
    | zero => intro k26 hv hk26 hhv hmu; exact absurd hmu (Nat.not_lt_zero _)
    | succ fu_26 ih_26 =>
      intro k26 hv hk26 hhv hmu_26 H locs ls V hl
      refine lv_iload hx hb dX8_heatThen_26 (lv_at hl 0 rfl) ?_
      refine lv_aload_n hx hb dX8_heatThen_28 rfl (lv_at hl 2 rfl) ?_
      refine g_get hC V (ci := 8) uwX8 0 rfl rfl 1 (by decide) w_913 rfl rfl dX8_heatThen_29 ?_
      refine lv_iconst (v := (nI 0)) hx hb dX8_heatThen_32 (by decide +kernel) ?_
      refine g_iald hC V 1 rfl (vp_in_nI (by decide) (by decide)) (v := (nI n)) (by rw [nI_clamp (by decide)]; first | rfl | exact h_a.2.1) dX8_heatThen_33 ?_
      refine lv_icmp_ge (tgt := 85) hx hb dX8_heatThen_34 (by decide) (fun c_2 => ?_) (fun c_2 => ?_)
      · skip
        have c_2 := b_le (by omega) (by omega) c_2
        refine lv_iload hx hb dX8_heatThen_85 (lv_at hl 1 rfl) ?_
        refine g_callSU (nA := 1) hC V hl.1 (m_inBounds l D T hv) w_1133 w_1134 w_9 w_1135 (by decide +kernel) rfl ⟨(Nat.le_of_ble_eq_true rfl), (Nat.le_of_ble_eq_true rfl)⟩ [] rfl rfl (Nat.le_of_ble_eq_true rfl) dX8_heatThen_87 ⟨(Nat.le_of_ble_eq_true rfl), (Nat.le_of_ble_eq_true rfl)⟩ rfl (fun r w1 H locs hQ V => ?_)
        obtain ⟨z_3, rfl, rfl, f_4, f_5⟩ := hQ
        have V : gW D T A s [(o, .inr (8, [.int w0, .ref g1, .ref g2, .ref g3, .ref g4, .int (nI tp), .int w6, .int w7, .int w8, .int w9, .int w10, .int w11, .int w12, .int w13, .int w14, .ref g15, .int w16, .ref g17, .int w18, .int w19, .ref g20, .int w21, .ref g22, .ref g23, .ref g24, .int w25, .int w26, .int w27, .ref g28, .ref g29, .int w30, .ref g31, .ref g32, .ref g33])), (g1, .inl (T 0, 282, .inl fa))] H locs := V _ [] rfl rfl rfl (by decide +kernel) rfl
        show W p l e _ s m args below meth c H locs _ _ _ (F0 m 90 ls [.int z_3])
        exact g_iret (Qr := (q_m_heatThen_f T n o j pl mr w0 g1 g2 g3 g4 tp w6 w7 w8 w9 w10 w11 w12 w13 w14 g15 w16 g17 w18 w19 g20 w21 g22 g23 g24 w25 w26 w27 g28 g29 w30 g31 g32 g33 fa)) hC V ⟨(Nat.le_of_ble_eq_true rfl), (Nat.le_of_ble_eq_true rfl)⟩ ⟨z_3, rfl, rfl, f_4, (by rw [f_5, hhv]; congr 3; omega)⟩ dX8_heatThen_90
      · skip
        have c_2 := b_nle (by omega) (by omega) c_2
        refine lv_iload hx hb dX8_heatThen_37 (lv_at hl 1 rfl) ?_
        refine lv_iload_n hx hb dX8_heatThen_39 rfl (lv_at hl 4 rfl) ?_
        refine lv_i2l (v := pl.toInt64) hx hb dX8_heatThen_40 rfl ?_
        refine lv_iload hx hb dX8_heatThen_41 (lv_at hl 0 rfl) ?_
        refine g_callSU (nA := 2) hC V hl.1 (m_isIn_f l D T pl k26 (by omega)) w_1130 w_1131 w_9 w_1132 (by decide +kernel) rfl ⟨(Nat.le_of_ble_eq_true rfl), (Nat.le_of_ble_eq_true rfl)⟩ [] rfl rfl (Nat.le_of_ble_eq_true rfl) dX8_heatThen_43 ⟨(Nat.le_of_ble_eq_true rfl), (Nat.le_of_ble_eq_true rfl)⟩ rfl (fun r w1 H locs hQ V => ?_)
        rcases hQ with ⟨rfl, rfl, f_6⟩ | ⟨rfl, rfl, f_7⟩
        · have V : gW D T A s [(o, .inr (8, [.int w0, .ref g1, .ref g2, .ref g3, .ref g4, .int (nI tp), .int w6, .int w7, .int w8, .int w9, .int w10, .int w11, .int w12, .int w13, .int w14, .ref g15, .int w16, .ref g17, .int w18, .int w19, .ref g20, .int w21, .ref g22, .ref g23, .ref g24, .int w25, .int w26, .int w27, .ref g28, .ref g29, .int w30, .ref g31, .ref g32, .ref g33])), (g1, .inl (T 0, 282, .inl fa))] H locs := V _ [] rfl rfl rfl (by decide +kernel) rfl
          show W p l e _ s m args below meth c H locs _ _ _ (F0 m 46 ls [.int (nI 1), .int hv])
          refine lv_if_eq (tgt := 75) hx hb dX8_heatThen_46 (by decide) (fun c => absurd (show (nI 1) = 0 from c) (by decide +kernel)) (fun _ => ?_)
          refine lv_aload_n hx hb dX8_heatThen_49 rfl (lv_at hl 2 rfl) ?_
          refine g_get hC V (ci := 8) uwX8 0 rfl rfl 1 (by decide) w_913 rfl rfl dX8_heatThen_50 ?_
          refine lv_bipush (v := (nI 84)) hx hb dX8_heatThen_53 (by decide +kernel) ?_
          refine lv_iload hx hb dX8_heatThen_55 (lv_at hl 0 rfl) ?_
          refine lv_iadd hx hb dX8_heatThen_57 ?_
          refine g_vi (y := (nI (84 + k26))) (nI_add _ _) ?_
          refine g_iald hC V 1 rfl (vp_in_nI (by omega) (by omega)) (v := (fa (84 + k26))) (congrArg _ (nI_clamp (by omega))) dX8_heatThen_58 ?_
          refine lv_iload_n hx hb dX8_heatThen_59 rfl (lv_at hl 3 rfl) ?_
          refine lv_icmp_ne (tgt := 75) hx hb dX8_heatThen_60 (by decide) (fun c_8 => ?_) (fun c_8 => ?_)
          · skip
            refine lv_iconst (v := (nI 0)) hx hb dX8_heatThen_75 (by decide +kernel) ?_
            refine lv_iadd hx hb dX8_heatThen_76 ?_
            refine lv_istore (lv' := [(4, .int (hv + (nI 0))), (5, .int (nI k26)), (0, .ref o), (1, .int (nI j)), (2, .int pl), (3, .int mr)]) hx hb dX8_heatThen_77 hl (by decide) rfl (fun ls hl => ?_)
            refine lv_iinc (v := (nI (k26 + 1))) (lv' := [(5, .int (nI (k26 + 1))), (4, .int (hv + (nI 0))), (0, .ref o), (1, .int (nI j)), (2, .int pl), (3, .int mr)]) hx hb dX8_heatThen_79 hl (k := 1) rfl (nI_1 _) (by decide) rfl (fun ls hl => ?_)
            refine lv_goto (tgt := 26) hx hb dX8_heatThen_82 (by decide) ?_
            exact ih_26 (k26 + 1) (hv + (nI 0)) (by omega) (by rw [hhv]; exact bs_n (fun q => c_8 q.2)) (by omega) _ _ _ V (lv_sub hl [0, 1, 2, 3, 4, 5] rfl)
          · skip
            refine lv_aload_n hx hb dX8_heatThen_63 rfl (lv_at hl 2 rfl) ?_
            refine g_get hC V (ci := 8) uwX8 0 rfl rfl 1 (by decide) w_913 rfl rfl dX8_heatThen_64 ?_
            refine lv_iconst (v := (nI 4)) hx hb dX8_heatThen_67 (by decide +kernel) ?_
            refine lv_iload hx hb dX8_heatThen_68 (lv_at hl 0 rfl) ?_
            refine lv_iadd hx hb dX8_heatThen_70 ?_
            refine g_vi (y := (nI (4 + k26))) (nI_add _ _) ?_
            refine g_iald hC V 1 rfl (vp_in_nI (by omega) (by omega)) (v := (fa (4 + k26))) (congrArg _ (nI_clamp (by omega))) dX8_heatThen_71 ?_
            refine lv_goto (tgt := 76) hx hb dX8_heatThen_72 (by decide) ?_
            refine lv_iadd hx hb dX8_heatThen_76 ?_
            refine lv_istore (lv' := [(4, .int (hv + (fa (4 + k26)))), (5, .int (nI k26)), (0, .ref o), (1, .int (nI j)), (2, .int pl), (3, .int mr)]) hx hb dX8_heatThen_77 hl (by decide) rfl (fun ls hl => ?_)
            refine lv_iinc (v := (nI (k26 + 1))) (lv' := [(5, .int (nI (k26 + 1))), (4, .int (hv + (fa (4 + k26)))), (0, .ref o), (1, .int (nI j)), (2, .int pl), (3, .int mr)]) hx hb dX8_heatThen_79 hl (k := 1) rfl (nI_1 _) (by decide) rfl (fun ls hl => ?_)
            refine lv_goto (tgt := 26) hx hb dX8_heatThen_82 (by decide) ?_
            exact ih_26 (k26 + 1) (hv + (fa (4 + k26))) (by omega) (by rw [hhv]; exact bs_y f_6 c_8) (by omega) _ _ _ V (lv_sub hl [0, 1, 2, 3, 4, 5] rfl)
        · have V : gW D T A s [(o, .inr (8, [.int w0, .ref g1, .ref g2, .ref g3, .ref g4, .int (nI tp), .int w6, .int w7, .int w8, .int w9, .int w10, .int w11, .int w12, .int w13, .int w14, .ref g15, .int w16, .ref g17, .int w18, .int w19, .ref g20, .int w21, .ref g22, .ref g23, .ref g24, .int w25, .int w26, .int w27, .ref g28, .ref g29, .int w30, .ref g31, .ref g32, .ref g33])), (g1, .inl (T 0, 282, .inl fa))] H locs := V _ [] rfl rfl rfl (by decide +kernel) rfl
          show W p l e _ s m args below meth c H locs _ _ _ (F0 m 46 ls [.int (nI 0), .int hv])
          refine lv_if_eq (tgt := 75) hx hb dX8_heatThen_46 (by decide) (fun _ => ?_) (fun c => absurd (show (nI 0) = 0 by decide +kernel) c)
          refine lv_iconst (v := (nI 0)) hx hb dX8_heatThen_75 (by decide +kernel) ?_
          refine lv_iadd hx hb dX8_heatThen_76 ?_
          refine lv_istore (lv' := [(4, .int (hv + (nI 0))), (5, .int (nI k26)), (0, .ref o), (1, .int (nI j)), (2, .int pl), (3, .int mr)]) hx hb dX8_heatThen_77 hl (by decide) rfl (fun ls hl => ?_)
          refine lv_iinc (v := (nI (k26 + 1))) (lv' := [(5, .int (nI (k26 + 1))), (4, .int (hv + (nI 0))), (0, .ref o), (1, .int (nI j)), (2, .int pl), (3, .int mr)]) hx hb dX8_heatThen_79 hl (k := 1) rfl (nI_1 _) (by decide) rfl (fun ls hl => ?_)
          refine lv_goto (tgt := 26) hx hb dX8_heatThen_82 (by decide) ?_
          exact ih_26 (k26 + 1) (hv + (nI 0)) (by omega) (by rw [hhv]; exact bs_n (fun q => f_7 q.1)) (by omega) _ _ _ V (lv_sub hl [0, 1, 2, 3, 4, 5] rfl)
  exact L_1 _ 0 (((fa (24 + j)) + mr) - (fa (14 + j))) (by omega) (add_n0 _) (Nat.lt_succ_self _) _ _ _ V (lv_sub hl [0, 1, 2, 3, 4, 5] rfl)

def q_m_goes_f (T : Nat → ClassId) (n : Nat) (o : Nat) (pl : Int32) (sk : Int32) (fi : Int32) (mr : Int32) (w0 : Int32) (g1 : Nat) (g2 : Nat) (g3 : Nat) (g4 : Nat) (tp : Nat) (w6 : Int32) (w7 : Int32) (w8 : Int32) (w9 : Int32) (w10 : Int32) (w11 : Int32) (w12 : Int32) (w13 : Int32) (w14 : Int32) (g15 : Nat) (w16 : Int32) (g17 : Nat) (w18 : Int32) (w19 : Int32) (g20 : Nat) (w21 : Int32) (g22 : Nat) (g23 : Nat) (g24 : Nat) (w25 : Int32) (w26 : Int32) (w27 : Int32) (g28 : Nat) (g29 : Nat) (w30 : Int32) (g31 : Nat) (g32 : Nat) (g33 : Nat) (fa : Nat → Int32) (fh : Nat → Int32) : Option Value → va_W → Prop := fun rr ww => (∃ (z : Int32) (bm : Int32) (ga : Nat → Int32) (gh : Nat → Int32), rr = some (.int z) ∧ ww = [(o, .inr (8, [.int w0, .ref g1, .ref g2, .ref g3, .ref g4, .int (nI tp), .int w6, .int w7, .int w8, .int w9, .int w10, .int w11, .int w12, .int w13, .int w14, .ref g15, .int bm, .ref g17, .int w18, .int w19, .ref g20, .int w21, .ref g22, .ref g23, .ref g24, .int w25, .int w26, .int w27, .ref g28, .ref g29, .int w30, .ref g31, .ref g32, .ref g33])), (g1, .inl (T 0, 282, .inl ga)), (g15, .inl (T 0, 10, .inl gh))] ∧ MS n fa ga ∧ z = goC fa sk n ∧ ga = goF n fa pl sk fi mr ∧ bm = w16 + goB n fa pl sk fi mr n)
set_option maxHeartbeats 8000000 in
set_option maxRecDepth 100000 in
theorem m_goes_f (l : Launch) (D : va_G) (T : Nat → ClassId) (n : Nat) (o : Nat) (pl : Int32) (sk : Int32) (fi : Int32) (mr : Int32) (w0 : Int32) (g1 : Nat) (g2 : Nat) (g3 : Nat) (g4 : Nat) (tp : Nat) (w6 : Int32) (w7 : Int32) (w8 : Int32) (w9 : Int32) (w10 : Int32) (w11 : Int32) (w12 : Int32) (w13 : Int32) (w14 : Int32) (g15 : Nat) (w16 : Int32) (g17 : Nat) (w18 : Int32) (w19 : Int32) (g20 : Nat) (w21 : Int32) (g22 : Nat) (g23 : Nat) (g24 : Nat) (w25 : Int32) (w26 : Int32) (w27 : Int32) (g28 : Nat) (g29 : Nat) (w30 : Int32) (g31 : Nat) (g32 : Nat) (g33 : Nat) (fa : Nat → Int32) (fh : Nat → Int32) (h_a : MI n fa) : Ct l yX8_goes cX8_goes 7 (some .int) 2 0 0 D T [.ref o, .int pl, .int sk, .int fi, .int mr] [(o, .inr (8, [.int w0, .ref g1, .ref g2, .ref g3, .ref g4, .int (nI tp), .int w6, .int w7, .int w8, .int w9, .int w10, .int w11, .int w12, .int w13, .int w14, .ref g15, .int w16, .ref g17, .int w18, .int w19, .ref g20, .int w21, .ref g22, .ref g23, .ref g24, .int w25, .int w26, .int w27, .ref g28, .ref g29, .int w30, .ref g31, .ref g32, .ref g33])), (g1, .inl (T 0, 282, .inl fa)), (g15, .inl (T 0, 10, .inl fh))] (q_m_goes_f T n o pl sk fi mr w0 g1 g2 g3 g4 tp w6 w7 w8 w9 w10 w11 w12 w13 w14 g15 w16 g17 w18 w19 g20 w21 g22 g23 g24 w25 w26 w27 g28 g29 w30 g31 g32 g33 fa fh) := by
  refine Ct.of (cc := cX8_goes) (maxL := 7) (ret := (some .int)) (by decide) (Nat.le_of_ble_eq_true rfl) ?_
  intro p e s m args below meth c A ls hC hnm V hl
  obtain ⟨hx, hb, hr, hml, hown, hts, hlocks⟩ := id hC
  generalize hH : s.heap = H at V ⊢
  clear hH
  have hl : lv_has ls 7 [(0, .ref o), (1, .int pl), (2, .int sk), (3, .int fi), (4, .int mr)] := hl
  generalize hlo : ([] : List Loc) = locs at V ⊢
  clear hlo
  have ms0 := ms_rf h_a
  have hn10 := h_a.1
  refine lv_iconst (v := (nI 0)) hx hb dX8_goes_0 (by decide +kernel) ?_
  refine lv_istore (lv' := [(5, .int (nI 0)), (0, .ref o), (1, .int pl), (2, .int sk), (3, .int fi), (4, .int mr)]) hx hb dX8_goes_1 hl (by decide) rfl (fun ls hl => ?_)
  refine lv_iconst (v := (nI 0)) hx hb dX8_goes_3 (by decide +kernel) ?_
  refine lv_istore (lv' := [(6, .int (nI 0)), (5, .int (nI 0)), (0, .ref o), (1, .int pl), (2, .int sk), (3, .int fi), (4, .int mr)]) hx hb dX8_goes_4 hl (by decide) rfl (fun ls hl => ?_)
  have L_1 : ∀ (fu : Nat) (k6 : Nat) (x5 : Int32) (th6 : Nat → Int32) (f6 : Nat → Int32), k6 ≤ n → MS n fa f6 → (∀ i, i < k6 → bd (th6 i) 201) → (∀ j, (j < 64 ∨ 64 + k6 ≤ j) → f6 j = fa j) → (∀ i, i < k6 → f6 (64 + i) = st1 fa sk i) → (∀ i, i < k6 → th6 i = hNw n fa pl fi mr i) → x5 = goC fa sk k6 → n - k6 < fu → ∀ (H : Heap) (locs : List Loc) (ls : Array Slot), gW D T A s [(o, .inr (8, [.int w0, .ref g1, .ref g2, .ref g3, .ref g4, .int (nI tp), .int w6, .int w7, .int w8, .int w9, .int w10, .int w11, .int w12, .int w13, .int w14, .ref g15, .int w16, .ref g17, .int w18, .int w19, .ref g20, .int w21, .ref g22, .ref g23, .ref g24, .int w25, .int w26, .int w27, .ref g28, .ref g29, .int w30, .ref g31, .ref g32, .ref g33])), (g1, .inl (T 0, 282, .inl f6)), (g15, .inl (T 0, 10, .inl th6))] H locs → lv_has ls 7 [(6, .int (nI k6)), (5, .int x5), (0, .ref o), (1, .int pl), (2, .int sk), (3, .int fi), (4, .int mr)] → W p l e (rmD 2 0 0) s m args below meth c H locs 0 0 (MQ below (gQ D A (q_m_goes_f T n o pl sk fi mr w0 g1 g2 g3 g4 tp w6 w7 w8 w9 w10 w11 w12 w13 w14 g15 w16 g17 w18 w19 g20 w21 g22 g23 g24 w25 w26 w27 g28 g29 w30 g31 g32 g33 fa fh)) args s 0 0 A) (F0 m 6 ls []) := by
    intro fu_6
    induction fu_6 with
    | zero => intro k6 x5 th6 f6 hk6 hf6 hth6 hA6 hB6 hT6 hC6 hmu; exact absurd hmu (Nat.not_lt_zero _)
    | succ fu_6 ih_6 =>
      intro k6 x5 th6 f6 hk6 hf6 hth6 hA6 hB6 hT6 hC6 hmu_6 H locs ls V hl
      refine lv_iload hx hb dX8_goes_6 (lv_at hl 0 rfl) ?_
      refine lv_aload_n hx hb dX8_goes_8 rfl (lv_at hl 2 rfl) ?_
      refine g_get hC V (ci := 8) uwX8 0 rfl rfl 1 (by decide) w_913 rfl rfl dX8_goes_9 ?_
      refine lv_iconst (v := (nI 0)) hx hb dX8_goes_12 (by decide +kernel) ?_
      refine g_iald hC V 1 rfl (vp_in_nI (by decide) (by decide)) (v := (nI n)) (by rw [nI_clamp (by decide)]; first | rfl | exact h_a.2.1 | exact hf6.1.2.1 | exact hf100.1.2.1) dX8_goes_13 ?_
      refine lv_icmp_ge (tgt := 97) hx hb dX8_goes_14 (by decide) (fun c_2 => ?_) (fun c_2 => ?_)
      · skip
        have c_2 := b_le (by omega) (by omega) c_2
        have hth : ∀ i, i < n → bd (th6 i) 201 := fun i h => hth6 i (by omega)
        have hTn : ∀ i, i < n → th6 i = hNw n fa pl fi mr i := fun i h => hT6 i (by omega)
        refine lv_iconst (v := (nI 0)) hx hb dX8_goes_97 (by decide +kernel) ?_
        refine lv_istore (lv' := [(6, .int (nI 0)), (5, .int x5), (0, .ref o), (1, .int pl), (2, .int sk), (3, .int fi), (4, .int mr)]) hx hb dX8_goes_98 hl (by decide) rfl (fun ls hl => ?_)
        have L_3 : ∀ (fu : Nat) (k100 : Nat) (bv : Int32) (f100 : Nat → Int32), k100 ≤ n → MS n fa f100 → f100 = md n fa pl sk fi mr k100 → bv = w16 + goB n fa pl sk fi mr k100 → n - k100 < fu → ∀ (H : Heap) (locs : List Loc) (ls : Array Slot), gW D T A s [(o, .inr (8, [.int w0, .ref g1, .ref g2, .ref g3, .ref g4, .int (nI tp), .int w6, .int w7, .int w8, .int w9, .int w10, .int w11, .int w12, .int w13, .int w14, .ref g15, .int bv, .ref g17, .int w18, .int w19, .ref g20, .int w21, .ref g22, .ref g23, .ref g24, .int w25, .int w26, .int w27, .ref g28, .ref g29, .int w30, .ref g31, .ref g32, .ref g33])), (g1, .inl (T 0, 282, .inl f100)), (g15, .inl (T 0, 10, .inl th6))] H locs → lv_has ls 7 [(6, .int (nI k100)), (5, .int x5), (0, .ref o), (1, .int pl), (2, .int sk), (3, .int fi), (4, .int mr)] → W p l e (rmD 2 0 0) s m args below meth c H locs 0 0 (MQ below (gQ D A (q_m_goes_f T n o pl sk fi mr w0 g1 g2 g3 g4 tp w6 w7 w8 w9 w10 w11 w12 w13 w14 g15 w16 g17 w18 w19 g20 w21 g22 g23 g24 w25 w26 w27 g28 g29 w30 g31 g32 g33 fa fh)) args s 0 0 A) (F0 m 100 ls []) := by
          intro fu_100
          induction fu_100 with
          | zero => intro k100 bv f100 hk100 hf100 hM hbv hmu; exact absurd hmu (Nat.not_lt_zero _)
          | succ fu_100 ih_100 =>
            intro k100 bv f100 hk100 hf100 hM hbv hmu_100 H locs ls V hl
            refine lv_iload hx hb dX8_goes_100 (lv_at hl 0 rfl) ?_
            refine lv_aload_n hx hb dX8_goes_102 rfl (lv_at hl 2 rfl) ?_
            refine g_get hC V (ci := 8) uwX8 0 rfl rfl 1 (by decide) w_913 rfl rfl dX8_goes_103 ?_
            refine lv_iconst (v := (nI 0)) hx hb dX8_goes_106 (by decide +kernel) ?_
            refine g_iald hC V 1 rfl (vp_in_nI (by decide) (by decide)) (v := (nI n)) (by rw [nI_clamp (by decide)]; first | rfl | exact h_a.2.1 | exact hf6.1.2.1 | exact hf100.1.2.1) dX8_goes_107 ?_
            refine lv_icmp_ge (tgt := 253) hx hb dX8_goes_108 (by decide) (fun c_4 => ?_) (fun c_4 => ?_)
            · skip
              have c_4 := b_le (by omega) (by omega) c_4
              refine lv_aload_n hx hb dX8_goes_253 rfl (lv_at hl 2 rfl) ?_
              refine g_get hC V (ci := 8) uwX8 0 rfl rfl 1 (by decide) w_913 rfl rfl dX8_goes_254 ?_
              refine lv_iconst (v := (nI 1)) hx hb dX8_goes_257 (by decide +kernel) ?_
              refine lv_dup2_11 hx hb dX8_goes_258 rfl rfl ?_
              refine g_iald hC V 1 rfl (vp_in_nI (by decide) (by decide)) (v := (f100 1)) (congrArg _ (nI_clamp (by decide))) dX8_goes_259 ?_
              refine lv_iconst (v := (nI 1)) hx hb dX8_goes_260 (by decide +kernel) ?_
              refine lv_iadd hx hb dX8_goes_261 ?_
              obtain ⟨f_5, ef_5⟩ : ∃ x, x = upd f100 1 ((f100 1) + (nI 1)) := ⟨_, rfl⟩
              have hf_5 : MS n fa f_5 := by rw [ef_5]; exact ms_st (by assumption) (by omega) (by omega) (by intros; first | (exfalso; omega) | assumption) (by intros; first | (exfalso; omega) | assumption) (by intros; first | (exfalso; omega) | assumption) (by intros; first | (exfalso; omega) | assumption) (by intros; first | (exfalso; omega) | assumption) (by intros; first | (exfalso; omega) | assumption) (by intros; first | (exfalso; omega) | assumption)
              refine g_iast hC V 1 rfl (vp_in_nI (by decide) (by decide)) (f' := f_5) (by rw [nI_clamp (by omega)]; exact ef_5.symm) (ws' := [(o, .inr (8, [.int w0, .ref g1, .ref g2, .ref g3, .ref g4, .int (nI tp), .int w6, .int w7, .int w8, .int w9, .int w10, .int w11, .int w12, .int w13, .int w14, .ref g15, .int bv, .ref g17, .int w18, .int w19, .ref g20, .int w21, .ref g22, .ref g23, .ref g24, .int w25, .int w26, .int w27, .ref g28, .ref g29, .int w30, .ref g31, .ref g32, .ref g33])), (g1, .inl (T 0, 282, .inl f_5)), (g15, .inl (T 0, 10, .inl th6))]) rfl dX8_goes_262 (fun H locs V => ?_)
              refine lv_iload hx hb dX8_goes_263 (lv_at hl 1 rfl) ?_
              exact g_iret (Qr := (q_m_goes_f T n o pl sk fi mr w0 g1 g2 g3 g4 tp w6 w7 w8 w9 w10 w11 w12 w13 w14 g15 w16 g17 w18 w19 g20 w21 g22 g23 g24 w25 w26 w27 g28 g29 w30 g31 g32 g33 fa fh)) hC V ⟨(Nat.le_of_ble_eq_true rfl), (Nat.le_of_ble_eq_true rfl)⟩ ⟨x5, bv, f_5, th6, rfl, rfl, (by assumption), (by rw [hC6]; congr 1; omega), (go_end hn10 hM (by omega) ef_5), (by rw [hbv]; congr 2; omega)⟩ dX8_goes_265
            · skip
              have c_4 := b_nle (by omega) (by omega) c_4
              refine lv_aload_n hx hb dX8_goes_111 rfl (lv_at hl 2 rfl) ?_
              refine g_get hC V (ci := 8) uwX8 0 rfl rfl 1 (by decide) w_913 rfl rfl dX8_goes_112 ?_
              refine lv_bipush (v := (nI 24)) hx hb dX8_goes_115 (by decide +kernel) ?_
              refine lv_iload hx hb dX8_goes_117 (lv_at hl 0 rfl) ?_
              refine lv_iadd hx hb dX8_goes_119 ?_
              refine g_vi (y := (nI (24 + k100))) (nI_add _ _) ?_
              refine lv_aload_n hx hb dX8_goes_120 rfl (lv_at hl 2 rfl) ?_
              refine g_get hC V (ci := 8) uwX8 0 rfl rfl 15 (by decide) w_927 rfl rfl dX8_goes_121 ?_
              refine lv_iload hx hb dX8_goes_124 (lv_at hl 0 rfl) ?_
              obtain ⟨j_6, hj_6, ej_6⟩ := bd_ex (hth k100 (by omega))
              refine g_iald hC V 2 rfl (vp_in_nI (by omega) (by omega)) (v := (nI j_6)) (by rw [nI_clamp (by omega)]; exact ej_6) dX8_goes_126 ?_
              obtain ⟨f_7, ef_7⟩ : ∃ x, x = upd f100 (24 + k100) (nI j_6) := ⟨_, rfl⟩
              have hf_7 : MS n fa f_7 := by rw [ef_7]; exact ms_st (by assumption) (by omega) (by omega) (by intros; first | (exfalso; omega) | exact bd_nI (by omega) | exact bd_le ‹bd (nI j_6) _› (by omega) | assumption) (by intros; first | (exfalso; omega) | exact bd_nI (by omega) | exact bd_le ‹bd (nI j_6) _› (by omega) | assumption) (by intros; first | (exfalso; omega) | exact bd_nI (by omega) | exact bd_le ‹bd (nI j_6) _› (by omega) | assumption) (by intros; first | (exfalso; omega) | exact bd_nI (by omega) | exact bd_le ‹bd (nI j_6) _› (by omega) | assumption) (by intros; first | (exfalso; omega) | exact bd_nI (by omega) | exact bd_le ‹bd (nI j_6) _› (by omega) | assumption) (by intros; first | (exfalso; omega) | exact bd_nI (by omega) | exact bd_le ‹bd (nI j_6) _› (by omega) | assumption) (by intros; first | (exfalso; omega) | exact bd_nI (by omega) | exact bd_le ‹bd (nI j_6) _› (by omega) | assumption)
              refine g_iast hC V 1 rfl (vp_in_nI (by omega) (by omega)) (f' := f_7) (by rw [nI_clamp (by omega)]; exact ef_7.symm) (ws' := [(o, .inr (8, [.int w0, .ref g1, .ref g2, .ref g3, .ref g4, .int (nI tp), .int w6, .int w7, .int w8, .int w9, .int w10, .int w11, .int w12, .int w13, .int w14, .ref g15, .int bv, .ref g17, .int w18, .int w19, .ref g20, .int w21, .ref g22, .ref g23, .ref g24, .int w25, .int w26, .int w27, .ref g28, .ref g29, .int w30, .ref g31, .ref g32, .ref g33])), (g1, .inl (T 0, 282, .inl f_7)), (g15, .inl (T 0, 10, .inl th6))]) rfl dX8_goes_127 (fun H locs V => ?_)
              have eA : f_7 = upd (md n fa pl sk fi mr k100) (24 + k100) (nI j_6) := by rw [ef_7, hM]
              have hxA : nI j_6 = hNw n fa pl fi mr k100 := ej_6.symm.trans (hTn _ (by omega))
              refine lv_aload_n hx hb dX8_goes_128 rfl (lv_at hl 2 rfl) ?_
              refine lv_iload hx hb dX8_goes_129 (lv_at hl 0 rfl) ?_
              refine g_callVU (nA := 1) hC V hl.1 (m_isDone l D T o k100 w0 g1 g2 g3 g4 tp w6 w7 w8 w9 w10 w11 w12 w13 w14 g15 bv g17 w18 w19 g20 w21 g22 g23 g24 w25 w26 w27 g28 g29 w30 g31 g32 g33 f_7 (by first | assumption | omega)) w_1088 w_1090 w_s47 w_9 w_1091 (by decide +kernel) rfl ⟨(Nat.le_of_ble_eq_true rfl), (Nat.le_of_ble_eq_true rfl)⟩ 0 (ci := 8) rfl rfl [0, 1] rfl rfl (Nat.le_of_ble_eq_true rfl) dX8_goes_131 ⟨(Nat.le_of_ble_eq_true rfl), (Nat.le_of_ble_eq_true rfl)⟩ rfl (fun r w1 H locs hQ V => ?_)
              rcases hQ with ⟨rfl, rfl, f_8⟩ | ⟨rfl, rfl, f_9⟩
              · have V : gW D T A s [(o, .inr (8, [.int w0, .ref g1, .ref g2, .ref g3, .ref g4, .int (nI tp), .int w6, .int w7, .int w8, .int w9, .int w10, .int w11, .int w12, .int w13, .int w14, .ref g15, .int bv, .ref g17, .int w18, .int w19, .ref g20, .int w21, .ref g22, .ref g23, .ref g24, .int w25, .int w26, .int w27, .ref g28, .ref g29, .int w30, .ref g31, .ref g32, .ref g33])), (g1, .inl (T 0, 282, .inl f_7)), (g15, .inl (T 0, 10, .inl th6))] H locs := V _ [0, 0] rfl rfl rfl (by decide +kernel) rfl
                show W p l e _ s m args below meth c H locs _ _ _ (F0 m 134 ls [.int (nI 1)])
                refine lv_if_ne (tgt := 247) hx hb dX8_goes_134 (by decide) (fun _ => ?_) (fun c => absurd (show (nI 1) = 0 from c) (by decide +kernel))
                refine lv_iinc (v := (nI (k100 + 1))) (lv' := [(6, .int (nI (k100 + 1))), (5, .int x5), (0, .ref o), (1, .int pl), (2, .int sk), (3, .int fi), (4, .int mr)]) hx hb dX8_goes_247 hl (k := 0) rfl (nI_1 _) (by decide) rfl (fun ls hl => ?_)
                refine lv_goto (tgt := 100) hx hb dX8_goes_250 (by decide) ?_
                exact ih_100 (k100 + 1) bv f_7 (by omega) (by assumption) (mdn_y hn10 (by omega) eA hxA (bur_1 hn10 (by omega) eA f_8)) (by rw [hbv]; exact congrArg _ (gBB_n (bur_1 hn10 (by omega) eA f_8))) (by omega) _ _ _ V (lv_sub hl [0, 1, 2, 3, 4, 5, 6] rfl)
              · have V : gW D T A s [(o, .inr (8, [.int w0, .ref g1, .ref g2, .ref g3, .ref g4, .int (nI tp), .int w6, .int w7, .int w8, .int w9, .int w10, .int w11, .int w12, .int w13, .int w14, .ref g15, .int bv, .ref g17, .int w18, .int w19, .ref g20, .int w21, .ref g22, .ref g23, .ref g24, .int w25, .int w26, .int w27, .ref g28, .ref g29, .int w30, .ref g31, .ref g32, .ref g33])), (g1, .inl (T 0, 282, .inl f_7)), (g15, .inl (T 0, 10, .inl th6))] H locs := V _ [0, 0] rfl rfl rfl (by decide +kernel) rfl
                show W p l e _ s m args below meth c H locs _ _ _ (F0 m 134 ls [.int (nI 0)])
                refine lv_if_ne (tgt := 247) hx hb dX8_goes_134 (by decide) (fun c => absurd (show (nI 0) = 0 by decide +kernel) c) (fun _ => ?_)
                refine lv_aload_n hx hb dX8_goes_137 rfl (lv_at hl 2 rfl) ?_
                refine g_get hC V (ci := 8) uwX8 0 rfl rfl 1 (by decide) w_913 rfl rfl dX8_goes_138 ?_
                refine lv_bipush (v := (nI 64)) hx hb dX8_goes_141 (by decide +kernel) ?_
                refine lv_iload hx hb dX8_goes_143 (lv_at hl 0 rfl) ?_
                refine lv_iadd hx hb dX8_goes_145 ?_
                refine g_vi (y := (nI (64 + k100))) (nI_add _ _) ?_
                obtain ⟨j_10, hj_10, ej_10⟩ := bd_ex (mi_has hf_7.1 (i := k100) (by omega))
                refine g_iald hC V 1 rfl (vp_in_nI (by omega) (by omega)) (v := (nI j_10)) (by rw [nI_clamp (by omega)]; exact ej_10) dX8_goes_146 ?_
                refine lv_if_eq (tgt := 247) hx hb dX8_goes_147 (by decide) (fun c_11 => ?_) (fun c_11 => ?_)
                · skip
                  rw [show (0 : Int32) = nI 0 from rfl] at c_11
                  have c_11 := b_eq (by omega) (by omega) c_11
                  refine lv_iinc (v := (nI (k100 + 1))) (lv' := [(6, .int (nI (k100 + 1))), (5, .int x5), (0, .ref o), (1, .int pl), (2, .int sk), (3, .int fi), (4, .int mr)]) hx hb dX8_goes_247 hl (k := 0) rfl (nI_1 _) (by decide) rfl (fun ls hl => ?_)
                  refine lv_goto (tgt := 100) hx hb dX8_goes_250 (by decide) ?_
                  exact ih_100 (k100 + 1) bv f_7 (by omega) (by assumption) (mdn_y hn10 (by omega) eA hxA (bur_2 hn10 (by omega) eA (by rw [ej_10, c_11]; exact z_dec))) (by rw [hbv]; exact congrArg _ (gBB_n (bur_2 hn10 (by omega) eA (by rw [ej_10, c_11]; exact z_dec)))) (by omega) _ _ _ V (lv_sub hl [0, 1, 2, 3, 4, 5, 6] rfl)
                · skip
                  rw [show (0 : Int32) = nI 0 from rfl] at c_11
                  have c_11 := b_ne (by omega) (by omega) c_11
                  refine lv_aload_n hx hb dX8_goes_150 rfl (lv_at hl 2 rfl) ?_
                  refine g_get hC V (ci := 8) uwX8 0 rfl rfl 15 (by decide) w_927 rfl rfl dX8_goes_151 ?_
                  refine lv_iload hx hb dX8_goes_154 (lv_at hl 0 rfl) ?_
                  refine g_iald hC V 2 rfl (vp_in_nI (by omega) (by omega)) (v := (nI j_6)) (by rw [nI_clamp (by omega)]; exact ej_6) dX8_goes_156 ?_
                  refine lv_aload_n hx hb dX8_goes_157 rfl (lv_at hl 2 rfl) ?_
                  refine g_get hC V (ci := 8) uwX8 0 rfl rfl 1 (by decide) w_913 rfl rfl dX8_goes_158 ?_
                  refine lv_bipush (v := (nI 44)) hx hb dX8_goes_161 (by decide +kernel) ?_
                  refine lv_iload hx hb dX8_goes_163 (lv_at hl 0 rfl) ?_
                  refine lv_iadd hx hb dX8_goes_165 ?_
                  refine g_vi (y := (nI (44 + k100))) (nI_add _ _) ?_
                  refine g_iald hC V 1 rfl (vp_in_nI (by omega) (by omega)) (v := (f_7 (44 + k100))) (congrArg _ (nI_clamp (by omega))) dX8_goes_166 ?_
                  refine lv_icmp_gt (tgt := 173) hx hb dX8_goes_167 (by decide) (fun c_12 => ?_) (fun c_12 => ?_)
                  · skip
                    have hbu := bur_y hn10 (by omega) eA hxA f_9 (fun q => by have := b_eq (by omega) (by decide) ((ej_10.symm.trans q).trans z_dec.symm); omega) c_12
                    refine lv_aload_n hx hb dX8_goes_173 rfl (lv_at hl 2 rfl) ?_
                    refine g_get hC V (ci := 8) uwX8 0 rfl rfl 1 (by decide) w_913 rfl rfl dX8_goes_174 ?_
                    refine lv_bipush (v := (nI 64)) hx hb dX8_goes_177 (by decide +kernel) ?_
                    refine lv_iload hx hb dX8_goes_179 (lv_at hl 0 rfl) ?_
                    refine lv_iadd hx hb dX8_goes_181 ?_
                    refine g_vi (y := (nI (64 + k100))) (nI_add _ _) ?_
                    refine lv_aload_n hx hb dX8_goes_182 rfl (lv_at hl 2 rfl) ?_
                    refine g_get hC V (ci := 8) uwX8 0 rfl rfl 1 (by decide) w_913 rfl rfl dX8_goes_183 ?_
                    refine lv_bipush (v := (nI 64)) hx hb dX8_goes_186 (by decide +kernel) ?_
                    refine lv_iload hx hb dX8_goes_188 (lv_at hl 0 rfl) ?_
                    refine lv_iadd hx hb dX8_goes_190 ?_
                    refine g_vi (y := (nI (64 + k100))) (nI_add _ _) ?_
                    refine g_iald hC V 1 rfl (vp_in_nI (by omega) (by omega)) (v := (nI j_10)) (by rw [nI_clamp (by omega)]; exact ej_10) dX8_goes_191 ?_
                    refine lv_aload_n hx hb dX8_goes_192 rfl (lv_at hl 2 rfl) ?_
                    refine g_get hC V (ci := 8) uwX8 0 rfl rfl 1 (by decide) w_913 rfl rfl dX8_goes_193 ?_
                    refine lv_iconst (v := (nI 2)) hx hb dX8_goes_196 (by decide +kernel) ?_
                    obtain ⟨j_13, hj_13, ej_13⟩ := bd_ex (mi_lost hf_7.1)
                    refine g_iald hC V 1 rfl (vp_in_nI (by decide) (by decide)) (v := (nI j_13)) (by rw [nI_clamp (by omega)]; exact ej_13) dX8_goes_197 ?_
                    refine lv_icmp_le (tgt := 221) hx hb dX8_goes_198 (by decide) (fun c_14 => ?_) (fun c_14 => ?_)
                    · skip
                      have c_14 := b_le (by omega) (by omega) c_14
                      refine lv_iconst (v := (nI 0)) hx hb dX8_goes_221 (by decide +kernel) ?_
                      obtain ⟨f_15, ef_15⟩ : ∃ x, x = upd f_7 (64 + k100) (nI 0) := ⟨_, rfl⟩
                      have hf_15 : MS n fa f_15 := by rw [ef_15]; exact ms_st (by assumption) (by omega) (by omega) (by intros; first | (exfalso; omega) | exact bd_nI (by omega) | exact bd_le ‹bd (nI 0) _› (by omega) | assumption) (by intros; first | (exfalso; omega) | exact bd_nI (by omega) | exact bd_le ‹bd (nI 0) _› (by omega) | assumption) (by intros; first | (exfalso; omega) | exact bd_nI (by omega) | exact bd_le ‹bd (nI 0) _› (by omega) | assumption) (by intros; first | (exfalso; omega) | exact bd_nI (by omega) | exact bd_le ‹bd (nI 0) _› (by omega) | assumption) (by intros; first | (exfalso; omega) | exact bd_nI (by omega) | exact bd_le ‹bd (nI 0) _› (by omega) | assumption) (by intros; first | (exfalso; omega) | exact bd_nI (by omega) | exact bd_le ‹bd (nI 0) _› (by omega) | assumption) (by intros; first | (exfalso; omega) | exact bd_nI (by omega) | exact bd_le ‹bd (nI 0) _› (by omega) | assumption)
                      refine g_iast hC V 1 rfl (vp_in_nI (by omega) (by omega)) (f' := f_15) (by rw [nI_clamp (by omega)]; exact ef_15.symm) (ws' := [(o, .inr (8, [.int w0, .ref g1, .ref g2, .ref g3, .ref g4, .int (nI tp), .int w6, .int w7, .int w8, .int w9, .int w10, .int w11, .int w12, .int w13, .int w14, .ref g15, .int bv, .ref g17, .int w18, .int w19, .ref g20, .int w21, .ref g22, .ref g23, .ref g24, .int w25, .int w26, .int w27, .ref g28, .ref g29, .int w30, .ref g31, .ref g32, .ref g33])), (g1, .inl (T 0, 282, .inl f_15)), (g15, .inl (T 0, 10, .inl th6))]) rfl dX8_goes_222 (fun H locs V => ?_)
                      refine lv_aload_n hx hb dX8_goes_223 rfl (lv_at hl 2 rfl) ?_
                      refine g_get hC V (ci := 8) uwX8 0 rfl rfl 1 (by decide) w_913 rfl rfl dX8_goes_224 ?_
                      refine lv_bipush (v := (nI 74)) hx hb dX8_goes_227 (by decide +kernel) ?_
                      refine lv_iload hx hb dX8_goes_229 (lv_at hl 0 rfl) ?_
                      refine lv_iadd hx hb dX8_goes_231 ?_
                      refine g_vi (y := (nI (74 + k100))) (nI_add _ _) ?_
                      refine lv_dup2_11 hx hb dX8_goes_232 rfl rfl ?_
                      refine g_iald hC V 1 rfl (vp_in_nI (by omega) (by omega)) (v := (f_15 (74 + k100))) (congrArg _ (nI_clamp (by omega))) dX8_goes_233 ?_
                      refine lv_iconst (v := (nI 1)) hx hb dX8_goes_234 (by decide +kernel) ?_
                      refine lv_iadd hx hb dX8_goes_235 ?_
                      obtain ⟨f_16, ef_16⟩ : ∃ x, x = upd f_15 (74 + k100) ((f_15 (74 + k100)) + (nI 1)) := ⟨_, rfl⟩
                      have hf_16 : MS n fa f_16 := by rw [ef_16]; exact ms_st (by assumption) (by omega) (by omega) (by intros; first | (exfalso; omega) | assumption) (by intros; first | (exfalso; omega) | assumption) (by intros; first | (exfalso; omega) | assumption) (by intros; first | (exfalso; omega) | assumption) (by intros; first | (exfalso; omega) | assumption) (by intros; first | (exfalso; omega) | assumption) (by intros; first | (exfalso; omega) | assumption)
                      refine g_iast hC V 1 rfl (vp_in_nI (by omega) (by omega)) (f' := f_16) (by rw [nI_clamp (by omega)]; exact ef_16.symm) (ws' := [(o, .inr (8, [.int w0, .ref g1, .ref g2, .ref g3, .ref g4, .int (nI tp), .int w6, .int w7, .int w8, .int w9, .int w10, .int w11, .int w12, .int w13, .int w14, .ref g15, .int bv, .ref g17, .int w18, .int w19, .ref g20, .int w21, .ref g22, .ref g23, .ref g24, .int w25, .int w26, .int w27, .ref g28, .ref g29, .int w30, .ref g31, .ref g32, .ref g33])), (g1, .inl (T 0, 282, .inl f_16)), (g15, .inl (T 0, 10, .inl th6))]) rfl dX8_goes_236 (fun H locs V => ?_)
                      refine lv_aload_n hx hb dX8_goes_237 rfl (lv_at hl 2 rfl) ?_
                      refine lv_dup hx hb dX8_goes_238 rfl ?_
                      refine g_get hC V (ci := 8) uwX8 0 rfl rfl 16 (by decide) w_928 rfl rfl dX8_goes_239 ?_
                      refine lv_iconst (v := (nI 1)) hx hb dX8_goes_242 (by decide +kernel) ?_
                      refine lv_iadd hx hb dX8_goes_243 ?_
                      refine g_put hC V (ci := 8) uwX8 tyX8 tyX8_ok nmX8 0 rfl rfl 16 (by decide) w_928 rfl rfl rfl rfl (Nat.le_of_ble_eq_true rfl) (ws' := [(o, .inr (8, [.int w0, .ref g1, .ref g2, .ref g3, .ref g4, .int (nI tp), .int w6, .int w7, .int w8, .int w9, .int w10, .int w11, .int w12, .int w13, .int w14, .ref g15, .int (bv + (nI 1)), .ref g17, .int w18, .int w19, .ref g20, .int w21, .ref g22, .ref g23, .ref g24, .int w25, .int w26, .int w27, .ref g28, .ref g29, .int w30, .ref g31, .ref g32, .ref g33])), (g1, .inl (T 0, 282, .inl f_16)), (g15, .inl (T 0, 10, .inl th6))]) rfl dX8_goes_244 (fun H locs V => ?_)
                      refine lv_iinc (v := (nI (k100 + 1))) (lv' := [(6, .int (nI (k100 + 1))), (5, .int x5), (0, .ref o), (1, .int pl), (2, .int sk), (3, .int fi), (4, .int mr)]) hx hb dX8_goes_247 hl (k := 0) rfl (nI_1 _) (by decide) rfl (fun ls hl => ?_)
                      refine lv_goto (tgt := 100) hx hb dX8_goes_250 (by decide) ?_
                      exact ih_100 (k100 + 1) (bv + (nI 1)) f_16 (by omega) (by assumption) (md_yy hn10 (by omega) eA hxA ef_15 ef_16 (bv_n hn10 (by omega) eA ej_10 ej_13 (by omega) (by omega)) hbu) (by rw [hbv]; exact gBB_y hbu) (by omega) _ _ _ V (lv_sub hl [0, 1, 2, 3, 4, 5, 6] rfl)
                    · skip
                      have c_14 := b_nle (by omega) (by omega) c_14
                      refine lv_aload_n hx hb dX8_goes_201 rfl (lv_at hl 2 rfl) ?_
                      refine g_get hC V (ci := 8) uwX8 0 rfl rfl 1 (by decide) w_913 rfl rfl dX8_goes_202 ?_
                      refine lv_bipush (v := (nI 64)) hx hb dX8_goes_205 (by decide +kernel) ?_
                      refine lv_iload hx hb dX8_goes_207 (lv_at hl 0 rfl) ?_
                      refine lv_iadd hx hb dX8_goes_209 ?_
                      refine g_vi (y := (nI (64 + k100))) (nI_add _ _) ?_
                      refine g_iald hC V 1 rfl (vp_in_nI (by omega) (by omega)) (v := (nI j_10)) (by rw [nI_clamp (by omega)]; exact ej_10) dX8_goes_210 ?_
                      refine lv_aload_n hx hb dX8_goes_211 rfl (lv_at hl 2 rfl) ?_
                      refine g_get hC V (ci := 8) uwX8 0 rfl rfl 1 (by decide) w_913 rfl rfl dX8_goes_212 ?_
                      refine lv_iconst (v := (nI 2)) hx hb dX8_goes_215 (by decide +kernel) ?_
                      refine g_iald hC V 1 rfl (vp_in_nI (by decide) (by decide)) (v := (nI j_13)) (by rw [nI_clamp (by omega)]; exact ej_13) dX8_goes_216 ?_
                      refine lv_isub hx hb dX8_goes_217 ?_
                      refine g_vi (y := (nI (j_10 - j_13))) (nI_sub (by omega)) ?_
                      refine lv_goto (tgt := 222) hx hb dX8_goes_218 (by decide) ?_
                      obtain ⟨f_17, ef_17⟩ : ∃ x, x = upd f_7 (64 + k100) (nI (j_10 - j_13)) := ⟨_, rfl⟩
                      have hf_17 : MS n fa f_17 := by rw [ef_17]; exact ms_st (by assumption) (by omega) (by omega) (by intros; first | (exfalso; omega) | exact bd_nI (by omega) | exact bd_le ‹bd (nI (j_10 - j_13)) _› (by omega) | assumption) (by intros; first | (exfalso; omega) | exact bd_nI (by omega) | exact bd_le ‹bd (nI (j_10 - j_13)) _› (by omega) | assumption) (by intros; first | (exfalso; omega) | exact bd_nI (by omega) | exact bd_le ‹bd (nI (j_10 - j_13)) _› (by omega) | assumption) (by intros; first | (exfalso; omega) | exact bd_nI (by omega) | exact bd_le ‹bd (nI (j_10 - j_13)) _› (by omega) | assumption) (by intros; first | (exfalso; omega) | exact bd_nI (by omega) | exact bd_le ‹bd (nI (j_10 - j_13)) _› (by omega) | assumption) (by intros; first | (exfalso; omega) | exact bd_nI (by omega) | exact bd_le ‹bd (nI (j_10 - j_13)) _› (by omega) | assumption) (by intros; first | (exfalso; omega) | exact bd_nI (by omega) | exact bd_le ‹bd (nI (j_10 - j_13)) _› (by omega) | assumption)
                      refine g_iast hC V 1 rfl (vp_in_nI (by omega) (by omega)) (f' := f_17) (by rw [nI_clamp (by omega)]; exact ef_17.symm) (ws' := [(o, .inr (8, [.int w0, .ref g1, .ref g2, .ref g3, .ref g4, .int (nI tp), .int w6, .int w7, .int w8, .int w9, .int w10, .int w11, .int w12, .int w13, .int w14, .ref g15, .int bv, .ref g17, .int w18, .int w19, .ref g20, .int w21, .ref g22, .ref g23, .ref g24, .int w25, .int w26, .int w27, .ref g28, .ref g29, .int w30, .ref g31, .ref g32, .ref g33])), (g1, .inl (T 0, 282, .inl f_17)), (g15, .inl (T 0, 10, .inl th6))]) rfl dX8_goes_222 (fun H locs V => ?_)
                      refine lv_aload_n hx hb dX8_goes_223 rfl (lv_at hl 2 rfl) ?_
                      refine g_get hC V (ci := 8) uwX8 0 rfl rfl 1 (by decide) w_913 rfl rfl dX8_goes_224 ?_
                      refine lv_bipush (v := (nI 74)) hx hb dX8_goes_227 (by decide +kernel) ?_
                      refine lv_iload hx hb dX8_goes_229 (lv_at hl 0 rfl) ?_
                      refine lv_iadd hx hb dX8_goes_231 ?_
                      refine g_vi (y := (nI (74 + k100))) (nI_add _ _) ?_
                      refine lv_dup2_11 hx hb dX8_goes_232 rfl rfl ?_
                      refine g_iald hC V 1 rfl (vp_in_nI (by omega) (by omega)) (v := (f_17 (74 + k100))) (congrArg _ (nI_clamp (by omega))) dX8_goes_233 ?_
                      refine lv_iconst (v := (nI 1)) hx hb dX8_goes_234 (by decide +kernel) ?_
                      refine lv_iadd hx hb dX8_goes_235 ?_
                      obtain ⟨f_18, ef_18⟩ : ∃ x, x = upd f_17 (74 + k100) ((f_17 (74 + k100)) + (nI 1)) := ⟨_, rfl⟩
                      have hf_18 : MS n fa f_18 := by rw [ef_18]; exact ms_st (by assumption) (by omega) (by omega) (by intros; first | (exfalso; omega) | assumption) (by intros; first | (exfalso; omega) | assumption) (by intros; first | (exfalso; omega) | assumption) (by intros; first | (exfalso; omega) | assumption) (by intros; first | (exfalso; omega) | assumption) (by intros; first | (exfalso; omega) | assumption) (by intros; first | (exfalso; omega) | assumption)
                      refine g_iast hC V 1 rfl (vp_in_nI (by omega) (by omega)) (f' := f_18) (by rw [nI_clamp (by omega)]; exact ef_18.symm) (ws' := [(o, .inr (8, [.int w0, .ref g1, .ref g2, .ref g3, .ref g4, .int (nI tp), .int w6, .int w7, .int w8, .int w9, .int w10, .int w11, .int w12, .int w13, .int w14, .ref g15, .int bv, .ref g17, .int w18, .int w19, .ref g20, .int w21, .ref g22, .ref g23, .ref g24, .int w25, .int w26, .int w27, .ref g28, .ref g29, .int w30, .ref g31, .ref g32, .ref g33])), (g1, .inl (T 0, 282, .inl f_18)), (g15, .inl (T 0, 10, .inl th6))]) rfl dX8_goes_236 (fun H locs V => ?_)
                      refine lv_aload_n hx hb dX8_goes_237 rfl (lv_at hl 2 rfl) ?_
                      refine lv_dup hx hb dX8_goes_238 rfl ?_
                      refine g_get hC V (ci := 8) uwX8 0 rfl rfl 16 (by decide) w_928 rfl rfl dX8_goes_239 ?_
                      refine lv_iconst (v := (nI 1)) hx hb dX8_goes_242 (by decide +kernel) ?_
                      refine lv_iadd hx hb dX8_goes_243 ?_
                      refine g_put hC V (ci := 8) uwX8 tyX8 tyX8_ok nmX8 0 rfl rfl 16 (by decide) w_928 rfl rfl rfl rfl (Nat.le_of_ble_eq_true rfl) (ws' := [(o, .inr (8, [.int w0, .ref g1, .ref g2, .ref g3, .ref g4, .int (nI tp), .int w6, .int w7, .int w8, .int w9, .int w10, .int w11, .int w12, .int w13, .int w14, .ref g15, .int (bv + (nI 1)), .ref g17, .int w18, .int w19, .ref g20, .int w21, .ref g22, .ref g23, .ref g24, .int w25, .int w26, .int w27, .ref g28, .ref g29, .int w30, .ref g31, .ref g32, .ref g33])), (g1, .inl (T 0, 282, .inl f_18)), (g15, .inl (T 0, 10, .inl th6))]) rfl dX8_goes_244 (fun H locs V => ?_)
                      refine lv_iinc (v := (nI (k100 + 1))) (lv' := [(6, .int (nI (k100 + 1))), (5, .int x5), (0, .ref o), (1, .int pl), (2, .int sk), (3, .int fi), (4, .int mr)]) hx hb dX8_goes_247 hl (k := 0) rfl (nI_1 _) (by decide) rfl (fun ls hl => ?_)
                      refine lv_goto (tgt := 100) hx hb dX8_goes_250 (by decide) ?_
                      exact ih_100 (k100 + 1) (bv + (nI 1)) f_18 (by omega) (by assumption) (md_yy hn10 (by omega) eA hxA ef_17 ef_18 (bv_y hn10 (by omega) eA ej_10 ej_13 (by omega) (by omega)) hbu) (by rw [hbv]; exact gBB_y hbu) (by omega) _ _ _ V (lv_sub hl [0, 1, 2, 3, 4, 5, 6] rfl)
                  · skip
                    refine lv_goto (tgt := 247) hx hb dX8_goes_170 (by decide) ?_
                    refine lv_iinc (v := (nI (k100 + 1))) (lv' := [(6, .int (nI (k100 + 1))), (5, .int x5), (0, .ref o), (1, .int pl), (2, .int sk), (3, .int fi), (4, .int mr)]) hx hb dX8_goes_247 hl (k := 0) rfl (nI_1 _) (by decide) rfl (fun ls hl => ?_)
                    refine lv_goto (tgt := 100) hx hb dX8_goes_250 (by decide) ?_
                    exact ih_100 (k100 + 1) bv f_7 (by omega) (by assumption) (mdn_y hn10 (by omega) eA hxA (bur_3 hn10 (by omega) eA hxA c_12)) (by rw [hbv]; exact congrArg _ (gBB_n (bur_3 hn10 (by omega) eA hxA c_12))) (by omega) _ _ _ V (lv_sub hl [0, 1, 2, 3, 4, 5, 6] rfl)
        exact L_3 _ 0 w16 f6 (by omega) (by assumption) (md_0 hn10 (fun j hj => hA6 j (by omega)) (fun i hi => hB6 i (by omega))) (add_n0 _) (Nat.lt_succ_self _) _ _ _ V (lv_sub hl [0, 1, 2, 3, 4, 5, 6] rfl)
      · skip
        have c_2 := b_nle (by omega) (by omega) c_2
        refine lv_aload_n hx hb dX8_goes_17 rfl (lv_at hl 2 rfl) ?_
        refine g_get hC V (ci := 8) uwX8 0 rfl rfl 15 (by decide) w_927 rfl rfl dX8_goes_18 ?_
        refine lv_iload hx hb dX8_goes_21 (lv_at hl 0 rfl) ?_
        refine lv_aload_n hx hb dX8_goes_23 rfl (lv_at hl 2 rfl) ?_
        refine lv_iload hx hb dX8_goes_24 (lv_at hl 0 rfl) ?_
        refine lv_iload_n hx hb dX8_goes_26 rfl (lv_at hl 3 rfl) ?_
        refine lv_iload hx hb dX8_goes_27 (lv_at hl 0 rfl) ?_
        refine lv_iload_n hx hb dX8_goes_29 rfl (lv_at hl 5 rfl) ?_
        refine lv_icmp_ne (tgt := 38) hx hb dX8_goes_30 (by decide) (fun c_19 => ?_) (fun c_19 => ?_)
        · skip
          refine lv_iconst (v := (nI 0)) hx hb dX8_goes_38 (by decide +kernel) ?_
          refine g_callVU (nA := 3) hC V hl.1 (m_heatThen_f l D T n o k6 pl (nI 0) w0 g1 g2 g3 g4 tp w6 w7 w8 w9 w10 w11 w12 w13 w14 g15 w16 g17 w18 w19 g20 w21 g22 g23 g24 w25 w26 w27 g28 g29 w30 g31 g32 g33 f6 hf6.1 (by first | assumption | omega)) w_1126 w_1128 w_s51 w_9 w_1129 (by decide +kernel) rfl ⟨(Nat.le_of_ble_eq_true rfl), (Nat.le_of_ble_eq_true rfl)⟩ 0 (ci := 8) rfl rfl [0, 1] rfl rfl (Nat.le_of_ble_eq_true rfl) dX8_goes_39 ⟨(Nat.le_of_ble_eq_true rfl), (Nat.le_of_ble_eq_true rfl)⟩ rfl (fun r w1 H locs hQ V => ?_)
          obtain ⟨z_20, rfl, rfl, f_21, f_22⟩ := hQ
          have V : gW D T A s [(o, .inr (8, [.int w0, .ref g1, .ref g2, .ref g3, .ref g4, .int (nI tp), .int w6, .int w7, .int w8, .int w9, .int w10, .int w11, .int w12, .int w13, .int w14, .ref g15, .int w16, .ref g17, .int w18, .int w19, .ref g20, .int w21, .ref g22, .ref g23, .ref g24, .int w25, .int w26, .int w27, .ref g28, .ref g29, .int w30, .ref g31, .ref g32, .ref g33])), (g1, .inl (T 0, 282, .inl f6)), (g15, .inl (T 0, 10, .inl th6))] H locs := V _ [0, 0] rfl rfl rfl (by decide +kernel) rfl
          show W p l e _ s m args below meth c H locs _ _ _ (F0 m 42 ls [.int z_20, .int (nI k6), .ref g15])
          refine g_iast hC V 2 rfl (vp_in_nI (by omega) (by omega)) (f' := (upd th6 k6 z_20)) (by rw [nI_clamp (by omega)]) (ws' := [(o, .inr (8, [.int w0, .ref g1, .ref g2, .ref g3, .ref g4, .int (nI tp), .int w6, .int w7, .int w8, .int w9, .int w10, .int w11, .int w12, .int w13, .int w14, .ref g15, .int w16, .ref g17, .int w18, .int w19, .ref g20, .int w21, .ref g22, .ref g23, .ref g24, .int w25, .int w26, .int w27, .ref g28, .ref g29, .int w30, .ref g31, .ref g32, .ref g33])), (g1, .inl (T 0, 282, .inl f6)), (g15, .inl (T 0, 10, .inl (upd th6 k6 z_20)))]) rfl dX8_goes_42 (fun H locs V => ?_)
          refine lv_iload_n hx hb dX8_goes_43 rfl (lv_at hl 4 rfl) ?_
          refine lv_i2l (v := sk.toInt64) hx hb dX8_goes_44 rfl ?_
          refine lv_iload hx hb dX8_goes_45 (lv_at hl 0 rfl) ?_
          refine g_callSU (nA := 2) hC V hl.1 (m_isIn_f l D T sk k6 (by omega)) w_1130 w_1131 w_9 w_1132 (by decide +kernel) rfl ⟨(Nat.le_of_ble_eq_true rfl), (Nat.le_of_ble_eq_true rfl)⟩ [] rfl rfl (Nat.le_of_ble_eq_true rfl) dX8_goes_47 ⟨(Nat.le_of_ble_eq_true rfl), (Nat.le_of_ble_eq_true rfl)⟩ rfl (fun r w1 H locs hQ V => ?_)
          rcases hQ with ⟨rfl, rfl, f_23⟩ | ⟨rfl, rfl, f_24⟩
          · have V : gW D T A s [(o, .inr (8, [.int w0, .ref g1, .ref g2, .ref g3, .ref g4, .int (nI tp), .int w6, .int w7, .int w8, .int w9, .int w10, .int w11, .int w12, .int w13, .int w14, .ref g15, .int w16, .ref g17, .int w18, .int w19, .ref g20, .int w21, .ref g22, .ref g23, .ref g24, .int w25, .int w26, .int w27, .ref g28, .ref g29, .int w30, .ref g31, .ref g32, .ref g33])), (g1, .inl (T 0, 282, .inl f6)), (g15, .inl (T 0, 10, .inl (upd th6 k6 z_20)))] H locs := V _ [] rfl rfl rfl (by decide +kernel) rfl
            show W p l e _ s m args below meth c H locs _ _ _ (F0 m 50 ls [.int (nI 1)])
            refine lv_if_eq (tgt := 91) hx hb dX8_goes_50 (by decide) (fun c => absurd (show (nI 1) = 0 from c) (by decide +kernel)) (fun _ => ?_)
            refine lv_aload_n hx hb dX8_goes_53 rfl (lv_at hl 2 rfl) ?_
            refine lv_iload hx hb dX8_goes_54 (lv_at hl 0 rfl) ?_
            refine g_callVU (nA := 1) hC V hl.1 (m_isDone l D T o k6 w0 g1 g2 g3 g4 tp w6 w7 w8 w9 w10 w11 w12 w13 w14 g15 w16 g17 w18 w19 g20 w21 g22 g23 g24 w25 w26 w27 g28 g29 w30 g31 g32 g33 f6 (by first | assumption | omega)) w_1088 w_1090 w_s47 w_9 w_1091 (by decide +kernel) rfl ⟨(Nat.le_of_ble_eq_true rfl), (Nat.le_of_ble_eq_true rfl)⟩ 0 (ci := 8) rfl rfl [0, 1] rfl rfl (Nat.le_of_ble_eq_true rfl) dX8_goes_56 ⟨(Nat.le_of_ble_eq_true rfl), (Nat.le_of_ble_eq_true rfl)⟩ rfl (fun r w1 H locs hQ V => ?_)
            rcases hQ with ⟨rfl, rfl, f_25⟩ | ⟨rfl, rfl, f_26⟩
            · have V : gW D T A s [(o, .inr (8, [.int w0, .ref g1, .ref g2, .ref g3, .ref g4, .int (nI tp), .int w6, .int w7, .int w8, .int w9, .int w10, .int w11, .int w12, .int w13, .int w14, .ref g15, .int w16, .ref g17, .int w18, .int w19, .ref g20, .int w21, .ref g22, .ref g23, .ref g24, .int w25, .int w26, .int w27, .ref g28, .ref g29, .int w30, .ref g31, .ref g32, .ref g33])), (g1, .inl (T 0, 282, .inl f6)), (g15, .inl (T 0, 10, .inl (upd th6 k6 z_20)))] H locs := V _ [0, 0] rfl rfl rfl (by decide +kernel) rfl
              show W p l e _ s m args below meth c H locs _ _ _ (F0 m 59 ls [.int (nI 1)])
              refine lv_if_ne (tgt := 91) hx hb dX8_goes_59 (by decide) (fun _ => ?_) (fun c => absurd (show (nI 1) = 0 from c) (by decide +kernel))
              refine lv_iinc (v := (nI (k6 + 1))) (lv' := [(6, .int (nI (k6 + 1))), (5, .int x5), (0, .ref o), (1, .int pl), (2, .int sk), (3, .int fi), (4, .int mr)]) hx hb dX8_goes_91 hl (k := 0) rfl (nI_1 _) (by decide) rfl (fun ls hl => ?_)
              refine lv_goto (tgt := 6) hx hb dX8_goes_94 (by decide) ?_
              exact ih_6 (k6 + 1) x5 (upd th6 k6 z_20) f6 (by omega) (by assumption) (up_one (p := fun _ x => bd x 201) hth6 (by assumption)) (fun j hj => hA6 j (by omega)) (gB_n hA6 hB6 (sP_2 hn10 (by omega) hA6 f_25)) (up_one (p := fun i x => x = hNw n fa pl fi mr i) hT6 (ht_eq hn10 (by omega) (by omega) hA6 f_22 (if_neg c_19).symm)) (by rw [hC6]; exact gC_n (sP_2 hn10 (by omega) hA6 f_25)) (by omega) _ _ _ V (lv_sub hl [0, 1, 2, 3, 4, 5, 6] rfl)
            · have V : gW D T A s [(o, .inr (8, [.int w0, .ref g1, .ref g2, .ref g3, .ref g4, .int (nI tp), .int w6, .int w7, .int w8, .int w9, .int w10, .int w11, .int w12, .int w13, .int w14, .ref g15, .int w16, .ref g17, .int w18, .int w19, .ref g20, .int w21, .ref g22, .ref g23, .ref g24, .int w25, .int w26, .int w27, .ref g28, .ref g29, .int w30, .ref g31, .ref g32, .ref g33])), (g1, .inl (T 0, 282, .inl f6)), (g15, .inl (T 0, 10, .inl (upd th6 k6 z_20)))] H locs := V _ [0, 0] rfl rfl rfl (by decide +kernel) rfl
              show W p l e _ s m args below meth c H locs _ _ _ (F0 m 59 ls [.int (nI 0)])
              refine lv_if_ne (tgt := 91) hx hb dX8_goes_59 (by decide) (fun c => absurd (show (nI 0) = 0 by decide +kernel) c) (fun _ => ?_)
              refine lv_aload_n hx hb dX8_goes_62 rfl (lv_at hl 2 rfl) ?_
              refine lv_iload hx hb dX8_goes_63 (lv_at hl 0 rfl) ?_
              refine g_callVU (nA := 1) hC V hl.1 (m_isWarm_f l D T o k6 w0 g1 g2 g3 g4 tp w6 w7 w8 w9 w10 w11 w12 w13 w14 g15 w16 g17 w18 w19 g20 w21 g22 g23 g24 w25 w26 w27 g28 g29 w30 g31 g32 g33 f6 (by first | assumption | omega)) w_1136 w_1138 w_s52 w_9 w_1139 (by decide +kernel) rfl ⟨(Nat.le_of_ble_eq_true rfl), (Nat.le_of_ble_eq_true rfl)⟩ 0 (ci := 8) rfl rfl [0, 1] rfl rfl (Nat.le_of_ble_eq_true rfl) dX8_goes_65 ⟨(Nat.le_of_ble_eq_true rfl), (Nat.le_of_ble_eq_true rfl)⟩ rfl (fun r w1 H locs hQ V => ?_)
              rcases hQ with ⟨rfl, rfl, f_27⟩ | ⟨rfl, rfl, f_28⟩
              · have V : gW D T A s [(o, .inr (8, [.int w0, .ref g1, .ref g2, .ref g3, .ref g4, .int (nI tp), .int w6, .int w7, .int w8, .int w9, .int w10, .int w11, .int w12, .int w13, .int w14, .ref g15, .int w16, .ref g17, .int w18, .int w19, .ref g20, .int w21, .ref g22, .ref g23, .ref g24, .int w25, .int w26, .int w27, .ref g28, .ref g29, .int w30, .ref g31, .ref g32, .ref g33])), (g1, .inl (T 0, 282, .inl f6)), (g15, .inl (T 0, 10, .inl (upd th6 k6 z_20)))] H locs := V _ [0, 0] rfl rfl rfl (by decide +kernel) rfl
                show W p l e _ s m args below meth c H locs _ _ _ (F0 m 68 ls [.int (nI 1)])
                refine lv_if_ne (tgt := 74) hx hb dX8_goes_68 (by decide) (fun _ => ?_) (fun c => absurd (show (nI 1) = 0 from c) (by decide +kernel))
                refine lv_aload_n hx hb dX8_goes_74 rfl (lv_at hl 2 rfl) ?_
                refine g_get hC V (ci := 8) uwX8 0 rfl rfl 1 (by decide) w_913 rfl rfl dX8_goes_75 ?_
                refine lv_bipush (v := (nI 64)) hx hb dX8_goes_78 (by decide +kernel) ?_
                refine lv_iload hx hb dX8_goes_80 (lv_at hl 0 rfl) ?_
                refine lv_iadd hx hb dX8_goes_82 ?_
                refine g_vi (y := (nI (64 + k6))) (nI_add _ _) ?_
                refine lv_dup2_11 hx hb dX8_goes_83 rfl rfl ?_
                obtain ⟨j_29, hj_29, ej_29⟩ := bd_ex (mi_has hf6.1 (i := k6) (by omega))
                refine g_iald hC V 1 rfl (vp_in_nI (by omega) (by omega)) (v := (nI j_29)) (by rw [nI_clamp (by omega)]; exact ej_29) dX8_goes_84 ?_
                refine lv_iconst (v := (nI 1)) hx hb dX8_goes_85 (by decide +kernel) ?_
                refine lv_iadd hx hb dX8_goes_86 ?_
                refine g_vi (y := (nI (j_29 + 1))) (nI_add _ _) ?_
                have hlt := bd_lt (mi_has hf6.1 (i := k6) (by omega)) (by decide) (mi_need hf6.1 (i := k6) (by omega)) (by decide) (by assumption) ej_29 (by omega)
                obtain ⟨f_30, ef_30⟩ : ∃ x, x = upd f6 (64 + k6) (nI (j_29 + 1)) := ⟨_, rfl⟩
                have hf_30 : MS n fa f_30 := by rw [ef_30]; exact ms_st (by assumption) (by omega) (by omega) (by intros; first | (exfalso; omega) | exact bd_nI (by omega) | exact bd_le ‹bd (nI (j_29 + 1)) _› (by omega) | assumption) (by intros; first | (exfalso; omega) | exact bd_nI (by omega) | exact bd_le ‹bd (nI (j_29 + 1)) _› (by omega) | assumption) (by intros; first | (exfalso; omega) | exact bd_nI (by omega) | exact bd_le ‹bd (nI (j_29 + 1)) _› (by omega) | assumption) (by intros; first | (exfalso; omega) | exact bd_nI (by omega) | exact bd_le ‹bd (nI (j_29 + 1)) _› (by omega) | assumption) (by intros; first | (exfalso; omega) | exact bd_nI (by omega) | exact bd_le ‹bd (nI (j_29 + 1)) _› (by omega) | assumption) (by intros; first | (exfalso; omega) | exact bd_nI (by omega) | exact bd_le ‹bd (nI (j_29 + 1)) _› (by omega) | assumption) (by intros; first | (exfalso; omega) | exact bd_nI (by omega) | exact bd_le ‹bd (nI (j_29 + 1)) _› (by omega) | assumption)
                refine g_iast hC V 1 rfl (vp_in_nI (by omega) (by omega)) (f' := f_30) (by rw [nI_clamp (by omega)]; exact ef_30.symm) (ws' := [(o, .inr (8, [.int w0, .ref g1, .ref g2, .ref g3, .ref g4, .int (nI tp), .int w6, .int w7, .int w8, .int w9, .int w10, .int w11, .int w12, .int w13, .int w14, .ref g15, .int w16, .ref g17, .int w18, .int w19, .ref g20, .int w21, .ref g22, .ref g23, .ref g24, .int w25, .int w26, .int w27, .ref g28, .ref g29, .int w30, .ref g31, .ref g32, .ref g33])), (g1, .inl (T 0, 282, .inl f_30)), (g15, .inl (T 0, 10, .inl (upd th6 k6 z_20)))]) rfl dX8_goes_87 (fun H locs V => ?_)
                refine lv_iinc (v := (x5 + 1)) (lv' := [(5, .int (x5 + 1)), (6, .int (nI k6)), (0, .ref o), (1, .int pl), (2, .int sk), (3, .int fi), (4, .int mr)]) hx hb dX8_goes_88 hl (k := 1) rfl rfl (by decide) rfl (fun ls hl => ?_)
                refine lv_iinc (v := (nI (k6 + 1))) (lv' := [(6, .int (nI (k6 + 1))), (5, .int (x5 + 1)), (0, .ref o), (1, .int pl), (2, .int sk), (3, .int fi), (4, .int mr)]) hx hb dX8_goes_91 hl (k := 1) rfl (nI_1 _) (by decide) rfl (fun ls hl => ?_)
                refine lv_goto (tgt := 6) hx hb dX8_goes_94 (by decide) ?_
                exact ih_6 (k6 + 1) (x5 + 1) (upd th6 k6 z_20) f_30 (by omega) (by assumption) (up_one (p := fun _ x => bd x 201) hth6 (by assumption)) (gA_y ef_30 hA6) (gB_y ef_30 hB6 (st1_y (sP_y hn10 (by omega) hA6 f_23 f_26 f_27) ((hA6 _ (by omega)).symm.trans ej_29))) (up_one (p := fun i x => x = hNw n fa pl fi mr i) hT6 (ht_eq hn10 (by omega) (by omega) hA6 f_22 (if_neg c_19).symm)) (by rw [hC6]; exact gC_y (sP_y hn10 (by omega) hA6 f_23 f_26 f_27)) (by omega) _ _ _ V (lv_sub hl [0, 1, 2, 3, 4, 5, 6] rfl)
              · have V : gW D T A s [(o, .inr (8, [.int w0, .ref g1, .ref g2, .ref g3, .ref g4, .int (nI tp), .int w6, .int w7, .int w8, .int w9, .int w10, .int w11, .int w12, .int w13, .int w14, .ref g15, .int w16, .ref g17, .int w18, .int w19, .ref g20, .int w21, .ref g22, .ref g23, .ref g24, .int w25, .int w26, .int w27, .ref g28, .ref g29, .int w30, .ref g31, .ref g32, .ref g33])), (g1, .inl (T 0, 282, .inl f6)), (g15, .inl (T 0, 10, .inl (upd th6 k6 z_20)))] H locs := V _ [0, 0] rfl rfl rfl (by decide +kernel) rfl
                show W p l e _ s m args below meth c H locs _ _ _ (F0 m 68 ls [.int (nI 0)])
                refine lv_if_ne (tgt := 74) hx hb dX8_goes_68 (by decide) (fun c => absurd (show (nI 0) = 0 by decide +kernel) c) (fun _ => ?_)
                refine lv_goto (tgt := 91) hx hb dX8_goes_71 (by decide) ?_
                refine lv_iinc (v := (nI (k6 + 1))) (lv' := [(6, .int (nI (k6 + 1))), (5, .int x5), (0, .ref o), (1, .int pl), (2, .int sk), (3, .int fi), (4, .int mr)]) hx hb dX8_goes_91 hl (k := 0) rfl (nI_1 _) (by decide) rfl (fun ls hl => ?_)
                refine lv_goto (tgt := 6) hx hb dX8_goes_94 (by decide) ?_
                exact ih_6 (k6 + 1) x5 (upd th6 k6 z_20) f6 (by omega) (by assumption) (up_one (p := fun _ x => bd x 201) hth6 (by assumption)) (fun j hj => hA6 j (by omega)) (gB_n hA6 hB6 (sP_3 hn10 (by omega) hA6 f_28)) (up_one (p := fun i x => x = hNw n fa pl fi mr i) hT6 (ht_eq hn10 (by omega) (by omega) hA6 f_22 (if_neg c_19).symm)) (by rw [hC6]; exact gC_n (sP_3 hn10 (by omega) hA6 f_28)) (by omega) _ _ _ V (lv_sub hl [0, 1, 2, 3, 4, 5, 6] rfl)
          · have V : gW D T A s [(o, .inr (8, [.int w0, .ref g1, .ref g2, .ref g3, .ref g4, .int (nI tp), .int w6, .int w7, .int w8, .int w9, .int w10, .int w11, .int w12, .int w13, .int w14, .ref g15, .int w16, .ref g17, .int w18, .int w19, .ref g20, .int w21, .ref g22, .ref g23, .ref g24, .int w25, .int w26, .int w27, .ref g28, .ref g29, .int w30, .ref g31, .ref g32, .ref g33])), (g1, .inl (T 0, 282, .inl f6)), (g15, .inl (T 0, 10, .inl (upd th6 k6 z_20)))] H locs := V _ [] rfl rfl rfl (by decide +kernel) rfl
            show W p l e _ s m args below meth c H locs _ _ _ (F0 m 50 ls [.int (nI 0)])
            refine lv_if_eq (tgt := 91) hx hb dX8_goes_50 (by decide) (fun _ => ?_) (fun c => absurd (show (nI 0) = 0 by decide +kernel) c)
            refine lv_iinc (v := (nI (k6 + 1))) (lv' := [(6, .int (nI (k6 + 1))), (5, .int x5), (0, .ref o), (1, .int pl), (2, .int sk), (3, .int fi), (4, .int mr)]) hx hb dX8_goes_91 hl (k := 0) rfl (nI_1 _) (by decide) rfl (fun ls hl => ?_)
            refine lv_goto (tgt := 6) hx hb dX8_goes_94 (by decide) ?_
            exact ih_6 (k6 + 1) x5 (upd th6 k6 z_20) f6 (by omega) (by assumption) (up_one (p := fun _ x => bd x 201) hth6 (by assumption)) (fun j hj => hA6 j (by omega)) (gB_n hA6 hB6 (fun q => f_24 q.1)) (up_one (p := fun i x => x = hNw n fa pl fi mr i) hT6 (ht_eq hn10 (by omega) (by omega) hA6 f_22 (if_neg c_19).symm)) (by rw [hC6]; exact gC_n (fun q => f_24 q.1)) (by omega) _ _ _ V (lv_sub hl [0, 1, 2, 3, 4, 5, 6] rfl)
        · skip
          refine lv_iload hx hb dX8_goes_33 (lv_at hl 6 rfl) ?_
          refine lv_goto (tgt := 39) hx hb dX8_goes_35 (by decide) ?_
          refine g_callVU (nA := 3) hC V hl.1 (m_heatThen_f l D T n o k6 pl mr w0 g1 g2 g3 g4 tp w6 w7 w8 w9 w10 w11 w12 w13 w14 g15 w16 g17 w18 w19 g20 w21 g22 g23 g24 w25 w26 w27 g28 g29 w30 g31 g32 g33 f6 hf6.1 (by first | assumption | omega)) w_1126 w_1128 w_s51 w_9 w_1129 (by decide +kernel) rfl ⟨(Nat.le_of_ble_eq_true rfl), (Nat.le_of_ble_eq_true rfl)⟩ 0 (ci := 8) rfl rfl [0, 1] rfl rfl (Nat.le_of_ble_eq_true rfl) dX8_goes_39 ⟨(Nat.le_of_ble_eq_true rfl), (Nat.le_of_ble_eq_true rfl)⟩ rfl (fun r w1 H locs hQ V => ?_)
          obtain ⟨z_31, rfl, rfl, f_32, f_33⟩ := hQ
          have V : gW D T A s [(o, .inr (8, [.int w0, .ref g1, .ref g2, .ref g3, .ref g4, .int (nI tp), .int w6, .int w7, .int w8, .int w9, .int w10, .int w11, .int w12, .int w13, .int w14, .ref g15, .int w16, .ref g17, .int w18, .int w19, .ref g20, .int w21, .ref g22, .ref g23, .ref g24, .int w25, .int w26, .int w27, .ref g28, .ref g29, .int w30, .ref g31, .ref g32, .ref g33])), (g1, .inl (T 0, 282, .inl f6)), (g15, .inl (T 0, 10, .inl th6))] H locs := V _ [0, 0] rfl rfl rfl (by decide +kernel) rfl
          show W p l e _ s m args below meth c H locs _ _ _ (F0 m 42 ls [.int z_31, .int (nI k6), .ref g15])
          refine g_iast hC V 2 rfl (vp_in_nI (by omega) (by omega)) (f' := (upd th6 k6 z_31)) (by rw [nI_clamp (by omega)]) (ws' := [(o, .inr (8, [.int w0, .ref g1, .ref g2, .ref g3, .ref g4, .int (nI tp), .int w6, .int w7, .int w8, .int w9, .int w10, .int w11, .int w12, .int w13, .int w14, .ref g15, .int w16, .ref g17, .int w18, .int w19, .ref g20, .int w21, .ref g22, .ref g23, .ref g24, .int w25, .int w26, .int w27, .ref g28, .ref g29, .int w30, .ref g31, .ref g32, .ref g33])), (g1, .inl (T 0, 282, .inl f6)), (g15, .inl (T 0, 10, .inl (upd th6 k6 z_31)))]) rfl dX8_goes_42 (fun H locs V => ?_)
          refine lv_iload_n hx hb dX8_goes_43 rfl (lv_at hl 4 rfl) ?_
          refine lv_i2l (v := sk.toInt64) hx hb dX8_goes_44 rfl ?_
          refine lv_iload hx hb dX8_goes_45 (lv_at hl 0 rfl) ?_
          refine g_callSU (nA := 2) hC V hl.1 (m_isIn_f l D T sk k6 (by omega)) w_1130 w_1131 w_9 w_1132 (by decide +kernel) rfl ⟨(Nat.le_of_ble_eq_true rfl), (Nat.le_of_ble_eq_true rfl)⟩ [] rfl rfl (Nat.le_of_ble_eq_true rfl) dX8_goes_47 ⟨(Nat.le_of_ble_eq_true rfl), (Nat.le_of_ble_eq_true rfl)⟩ rfl (fun r w1 H locs hQ V => ?_)
          rcases hQ with ⟨rfl, rfl, f_34⟩ | ⟨rfl, rfl, f_35⟩
          · have V : gW D T A s [(o, .inr (8, [.int w0, .ref g1, .ref g2, .ref g3, .ref g4, .int (nI tp), .int w6, .int w7, .int w8, .int w9, .int w10, .int w11, .int w12, .int w13, .int w14, .ref g15, .int w16, .ref g17, .int w18, .int w19, .ref g20, .int w21, .ref g22, .ref g23, .ref g24, .int w25, .int w26, .int w27, .ref g28, .ref g29, .int w30, .ref g31, .ref g32, .ref g33])), (g1, .inl (T 0, 282, .inl f6)), (g15, .inl (T 0, 10, .inl (upd th6 k6 z_31)))] H locs := V _ [] rfl rfl rfl (by decide +kernel) rfl
            show W p l e _ s m args below meth c H locs _ _ _ (F0 m 50 ls [.int (nI 1)])
            refine lv_if_eq (tgt := 91) hx hb dX8_goes_50 (by decide) (fun c => absurd (show (nI 1) = 0 from c) (by decide +kernel)) (fun _ => ?_)
            refine lv_aload_n hx hb dX8_goes_53 rfl (lv_at hl 2 rfl) ?_
            refine lv_iload hx hb dX8_goes_54 (lv_at hl 0 rfl) ?_
            refine g_callVU (nA := 1) hC V hl.1 (m_isDone l D T o k6 w0 g1 g2 g3 g4 tp w6 w7 w8 w9 w10 w11 w12 w13 w14 g15 w16 g17 w18 w19 g20 w21 g22 g23 g24 w25 w26 w27 g28 g29 w30 g31 g32 g33 f6 (by first | assumption | omega)) w_1088 w_1090 w_s47 w_9 w_1091 (by decide +kernel) rfl ⟨(Nat.le_of_ble_eq_true rfl), (Nat.le_of_ble_eq_true rfl)⟩ 0 (ci := 8) rfl rfl [0, 1] rfl rfl (Nat.le_of_ble_eq_true rfl) dX8_goes_56 ⟨(Nat.le_of_ble_eq_true rfl), (Nat.le_of_ble_eq_true rfl)⟩ rfl (fun r w1 H locs hQ V => ?_)
            rcases hQ with ⟨rfl, rfl, f_36⟩ | ⟨rfl, rfl, f_37⟩
            · have V : gW D T A s [(o, .inr (8, [.int w0, .ref g1, .ref g2, .ref g3, .ref g4, .int (nI tp), .int w6, .int w7, .int w8, .int w9, .int w10, .int w11, .int w12, .int w13, .int w14, .ref g15, .int w16, .ref g17, .int w18, .int w19, .ref g20, .int w21, .ref g22, .ref g23, .ref g24, .int w25, .int w26, .int w27, .ref g28, .ref g29, .int w30, .ref g31, .ref g32, .ref g33])), (g1, .inl (T 0, 282, .inl f6)), (g15, .inl (T 0, 10, .inl (upd th6 k6 z_31)))] H locs := V _ [0, 0] rfl rfl rfl (by decide +kernel) rfl
              show W p l e _ s m args below meth c H locs _ _ _ (F0 m 59 ls [.int (nI 1)])
              refine lv_if_ne (tgt := 91) hx hb dX8_goes_59 (by decide) (fun _ => ?_) (fun c => absurd (show (nI 1) = 0 from c) (by decide +kernel))
              refine lv_iinc (v := (nI (k6 + 1))) (lv' := [(6, .int (nI (k6 + 1))), (5, .int x5), (0, .ref o), (1, .int pl), (2, .int sk), (3, .int fi), (4, .int mr)]) hx hb dX8_goes_91 hl (k := 0) rfl (nI_1 _) (by decide) rfl (fun ls hl => ?_)
              refine lv_goto (tgt := 6) hx hb dX8_goes_94 (by decide) ?_
              exact ih_6 (k6 + 1) x5 (upd th6 k6 z_31) f6 (by omega) (by assumption) (up_one (p := fun _ x => bd x 201) hth6 (by assumption)) (fun j hj => hA6 j (by omega)) (gB_n hA6 hB6 (sP_2 hn10 (by omega) hA6 f_36)) (up_one (p := fun i x => x = hNw n fa pl fi mr i) hT6 (ht_eq hn10 (by omega) (by omega) hA6 f_33 (if_pos c_19).symm)) (by rw [hC6]; exact gC_n (sP_2 hn10 (by omega) hA6 f_36)) (by omega) _ _ _ V (lv_sub hl [0, 1, 2, 3, 4, 5, 6] rfl)
            · have V : gW D T A s [(o, .inr (8, [.int w0, .ref g1, .ref g2, .ref g3, .ref g4, .int (nI tp), .int w6, .int w7, .int w8, .int w9, .int w10, .int w11, .int w12, .int w13, .int w14, .ref g15, .int w16, .ref g17, .int w18, .int w19, .ref g20, .int w21, .ref g22, .ref g23, .ref g24, .int w25, .int w26, .int w27, .ref g28, .ref g29, .int w30, .ref g31, .ref g32, .ref g33])), (g1, .inl (T 0, 282, .inl f6)), (g15, .inl (T 0, 10, .inl (upd th6 k6 z_31)))] H locs := V _ [0, 0] rfl rfl rfl (by decide +kernel) rfl
              show W p l e _ s m args below meth c H locs _ _ _ (F0 m 59 ls [.int (nI 0)])
              refine lv_if_ne (tgt := 91) hx hb dX8_goes_59 (by decide) (fun c => absurd (show (nI 0) = 0 by decide +kernel) c) (fun _ => ?_)
              refine lv_aload_n hx hb dX8_goes_62 rfl (lv_at hl 2 rfl) ?_
              refine lv_iload hx hb dX8_goes_63 (lv_at hl 0 rfl) ?_
              refine g_callVU (nA := 1) hC V hl.1 (m_isWarm_f l D T o k6 w0 g1 g2 g3 g4 tp w6 w7 w8 w9 w10 w11 w12 w13 w14 g15 w16 g17 w18 w19 g20 w21 g22 g23 g24 w25 w26 w27 g28 g29 w30 g31 g32 g33 f6 (by first | assumption | omega)) w_1136 w_1138 w_s52 w_9 w_1139 (by decide +kernel) rfl ⟨(Nat.le_of_ble_eq_true rfl), (Nat.le_of_ble_eq_true rfl)⟩ 0 (ci := 8) rfl rfl [0, 1] rfl rfl (Nat.le_of_ble_eq_true rfl) dX8_goes_65 ⟨(Nat.le_of_ble_eq_true rfl), (Nat.le_of_ble_eq_true rfl)⟩ rfl (fun r w1 H locs hQ V => ?_)
              rcases hQ with ⟨rfl, rfl, f_38⟩ | ⟨rfl, rfl, f_39⟩
              · have V : gW D T A s [(o, .inr (8, [.int w0, .ref g1, .ref g2, .ref g3, .ref g4, .int (nI tp), .int w6, .int w7, .int w8, .int w9, .int w10, .int w11, .int w12, .int w13, .int w14, .ref g15, .int w16, .ref g17, .int w18, .int w19, .ref g20, .int w21, .ref g22, .ref g23, .ref g24, .int w25, .int w26, .int w27, .ref g28, .ref g29, .int w30, .ref g31, .ref g32, .ref g33])), (g1, .inl (T 0, 282, .inl f6)), (g15, .inl (T 0, 10, .inl (upd th6 k6 z_31)))] H locs := V _ [0, 0] rfl rfl rfl (by decide +kernel) rfl
                show W p l e _ s m args below meth c H locs _ _ _ (F0 m 68 ls [.int (nI 1)])
                refine lv_if_ne (tgt := 74) hx hb dX8_goes_68 (by decide) (fun _ => ?_) (fun c => absurd (show (nI 1) = 0 from c) (by decide +kernel))
                refine lv_aload_n hx hb dX8_goes_74 rfl (lv_at hl 2 rfl) ?_
                refine g_get hC V (ci := 8) uwX8 0 rfl rfl 1 (by decide) w_913 rfl rfl dX8_goes_75 ?_
                refine lv_bipush (v := (nI 64)) hx hb dX8_goes_78 (by decide +kernel) ?_
                refine lv_iload hx hb dX8_goes_80 (lv_at hl 0 rfl) ?_
                refine lv_iadd hx hb dX8_goes_82 ?_
                refine g_vi (y := (nI (64 + k6))) (nI_add _ _) ?_
                refine lv_dup2_11 hx hb dX8_goes_83 rfl rfl ?_
                obtain ⟨j_40, hj_40, ej_40⟩ := bd_ex (mi_has hf6.1 (i := k6) (by omega))
                refine g_iald hC V 1 rfl (vp_in_nI (by omega) (by omega)) (v := (nI j_40)) (by rw [nI_clamp (by omega)]; exact ej_40) dX8_goes_84 ?_
                refine lv_iconst (v := (nI 1)) hx hb dX8_goes_85 (by decide +kernel) ?_
                refine lv_iadd hx hb dX8_goes_86 ?_
                refine g_vi (y := (nI (j_40 + 1))) (nI_add _ _) ?_
                have hlt := bd_lt (mi_has hf6.1 (i := k6) (by omega)) (by decide) (mi_need hf6.1 (i := k6) (by omega)) (by decide) (by assumption) ej_40 (by omega)
                obtain ⟨f_41, ef_41⟩ : ∃ x, x = upd f6 (64 + k6) (nI (j_40 + 1)) := ⟨_, rfl⟩
                have hf_41 : MS n fa f_41 := by rw [ef_41]; exact ms_st (by assumption) (by omega) (by omega) (by intros; first | (exfalso; omega) | exact bd_nI (by omega) | exact bd_le ‹bd (nI (j_40 + 1)) _› (by omega) | assumption) (by intros; first | (exfalso; omega) | exact bd_nI (by omega) | exact bd_le ‹bd (nI (j_40 + 1)) _› (by omega) | assumption) (by intros; first | (exfalso; omega) | exact bd_nI (by omega) | exact bd_le ‹bd (nI (j_40 + 1)) _› (by omega) | assumption) (by intros; first | (exfalso; omega) | exact bd_nI (by omega) | exact bd_le ‹bd (nI (j_40 + 1)) _› (by omega) | assumption) (by intros; first | (exfalso; omega) | exact bd_nI (by omega) | exact bd_le ‹bd (nI (j_40 + 1)) _› (by omega) | assumption) (by intros; first | (exfalso; omega) | exact bd_nI (by omega) | exact bd_le ‹bd (nI (j_40 + 1)) _› (by omega) | assumption) (by intros; first | (exfalso; omega) | exact bd_nI (by omega) | exact bd_le ‹bd (nI (j_40 + 1)) _› (by omega) | assumption)
                refine g_iast hC V 1 rfl (vp_in_nI (by omega) (by omega)) (f' := f_41) (by rw [nI_clamp (by omega)]; exact ef_41.symm) (ws' := [(o, .inr (8, [.int w0, .ref g1, .ref g2, .ref g3, .ref g4, .int (nI tp), .int w6, .int w7, .int w8, .int w9, .int w10, .int w11, .int w12, .int w13, .int w14, .ref g15, .int w16, .ref g17, .int w18, .int w19, .ref g20, .int w21, .ref g22, .ref g23, .ref g24, .int w25, .int w26, .int w27, .ref g28, .ref g29, .int w30, .ref g31, .ref g32, .ref g33])), (g1, .inl (T 0, 282, .inl f_41)), (g15, .inl (T 0, 10, .inl (upd th6 k6 z_31)))]) rfl dX8_goes_87 (fun H locs V => ?_)
                refine lv_iinc (v := (x5 + 1)) (lv' := [(5, .int (x5 + 1)), (6, .int (nI k6)), (0, .ref o), (1, .int pl), (2, .int sk), (3, .int fi), (4, .int mr)]) hx hb dX8_goes_88 hl (k := 1) rfl rfl (by decide) rfl (fun ls hl => ?_)
                refine lv_iinc (v := (nI (k6 + 1))) (lv' := [(6, .int (nI (k6 + 1))), (5, .int (x5 + 1)), (0, .ref o), (1, .int pl), (2, .int sk), (3, .int fi), (4, .int mr)]) hx hb dX8_goes_91 hl (k := 1) rfl (nI_1 _) (by decide) rfl (fun ls hl => ?_)
                refine lv_goto (tgt := 6) hx hb dX8_goes_94 (by decide) ?_
                exact ih_6 (k6 + 1) (x5 + 1) (upd th6 k6 z_31) f_41 (by omega) (by assumption) (up_one (p := fun _ x => bd x 201) hth6 (by assumption)) (gA_y ef_41 hA6) (gB_y ef_41 hB6 (st1_y (sP_y hn10 (by omega) hA6 f_34 f_37 f_38) ((hA6 _ (by omega)).symm.trans ej_40))) (up_one (p := fun i x => x = hNw n fa pl fi mr i) hT6 (ht_eq hn10 (by omega) (by omega) hA6 f_33 (if_pos c_19).symm)) (by rw [hC6]; exact gC_y (sP_y hn10 (by omega) hA6 f_34 f_37 f_38)) (by omega) _ _ _ V (lv_sub hl [0, 1, 2, 3, 4, 5, 6] rfl)
              · have V : gW D T A s [(o, .inr (8, [.int w0, .ref g1, .ref g2, .ref g3, .ref g4, .int (nI tp), .int w6, .int w7, .int w8, .int w9, .int w10, .int w11, .int w12, .int w13, .int w14, .ref g15, .int w16, .ref g17, .int w18, .int w19, .ref g20, .int w21, .ref g22, .ref g23, .ref g24, .int w25, .int w26, .int w27, .ref g28, .ref g29, .int w30, .ref g31, .ref g32, .ref g33])), (g1, .inl (T 0, 282, .inl f6)), (g15, .inl (T 0, 10, .inl (upd th6 k6 z_31)))] H locs := V _ [0, 0] rfl rfl rfl (by decide +kernel) rfl
                show W p l e _ s m args below meth c H locs _ _ _ (F0 m 68 ls [.int (nI 0)])
                refine lv_if_ne (tgt := 74) hx hb dX8_goes_68 (by decide) (fun c => absurd (show (nI 0) = 0 by decide +kernel) c) (fun _ => ?_)
                refine lv_goto (tgt := 91) hx hb dX8_goes_71 (by decide) ?_
                refine lv_iinc (v := (nI (k6 + 1))) (lv' := [(6, .int (nI (k6 + 1))), (5, .int x5), (0, .ref o), (1, .int pl), (2, .int sk), (3, .int fi), (4, .int mr)]) hx hb dX8_goes_91 hl (k := 0) rfl (nI_1 _) (by decide) rfl (fun ls hl => ?_)
                refine lv_goto (tgt := 6) hx hb dX8_goes_94 (by decide) ?_
                exact ih_6 (k6 + 1) x5 (upd th6 k6 z_31) f6 (by omega) (by assumption) (up_one (p := fun _ x => bd x 201) hth6 (by assumption)) (fun j hj => hA6 j (by omega)) (gB_n hA6 hB6 (sP_3 hn10 (by omega) hA6 f_39)) (up_one (p := fun i x => x = hNw n fa pl fi mr i) hT6 (ht_eq hn10 (by omega) (by omega) hA6 f_33 (if_pos c_19).symm)) (by rw [hC6]; exact gC_n (sP_3 hn10 (by omega) hA6 f_39)) (by omega) _ _ _ V (lv_sub hl [0, 1, 2, 3, 4, 5, 6] rfl)
          · have V : gW D T A s [(o, .inr (8, [.int w0, .ref g1, .ref g2, .ref g3, .ref g4, .int (nI tp), .int w6, .int w7, .int w8, .int w9, .int w10, .int w11, .int w12, .int w13, .int w14, .ref g15, .int w16, .ref g17, .int w18, .int w19, .ref g20, .int w21, .ref g22, .ref g23, .ref g24, .int w25, .int w26, .int w27, .ref g28, .ref g29, .int w30, .ref g31, .ref g32, .ref g33])), (g1, .inl (T 0, 282, .inl f6)), (g15, .inl (T 0, 10, .inl (upd th6 k6 z_31)))] H locs := V _ [] rfl rfl rfl (by decide +kernel) rfl
            show W p l e _ s m args below meth c H locs _ _ _ (F0 m 50 ls [.int (nI 0)])
            refine lv_if_eq (tgt := 91) hx hb dX8_goes_50 (by decide) (fun _ => ?_) (fun c => absurd (show (nI 0) = 0 by decide +kernel) c)
            refine lv_iinc (v := (nI (k6 + 1))) (lv' := [(6, .int (nI (k6 + 1))), (5, .int x5), (0, .ref o), (1, .int pl), (2, .int sk), (3, .int fi), (4, .int mr)]) hx hb dX8_goes_91 hl (k := 0) rfl (nI_1 _) (by decide) rfl (fun ls hl => ?_)
            refine lv_goto (tgt := 6) hx hb dX8_goes_94 (by decide) ?_
            exact ih_6 (k6 + 1) x5 (upd th6 k6 z_31) f6 (by omega) (by assumption) (up_one (p := fun _ x => bd x 201) hth6 (by assumption)) (fun j hj => hA6 j (by omega)) (gB_n hA6 hB6 (fun q => f_35 q.1)) (up_one (p := fun i x => x = hNw n fa pl fi mr i) hT6 (ht_eq hn10 (by omega) (by omega) hA6 f_33 (if_pos c_19).symm)) (by rw [hC6]; exact gC_n (fun q => f_35 q.1)) (by omega) _ _ _ V (lv_sub hl [0, 1, 2, 3, 4, 5, 6] rfl)
  exact L_1 _ 0 (nI 0) fh fa (by omega) (by assumption) (fun i h => absurd h (Nat.not_lt_zero _)) (fun _ _ => rfl) (fun i h => absurd h (Nat.not_lt_zero _)) (fun i h => absurd h (Nat.not_lt_zero _)) rfl (Nat.lt_succ_self _) _ _ _ V (lv_sub hl [0, 1, 2, 3, 4, 5, 6] rfl)

def q_s_burn_f (T : Nat → ClassId) (a0 : Nat) (j : Nat) (an : Nat) (am : Int32) (al : Int32) (ao : Int32) (au : Int32) (a1 : Nat) (a2 : Nat) (a3 : Nat) (a4 : Nat) (a5 : Nat) (a6 : Nat) (a7 : Nat) (a8 : Nat) (a9 : Nat) (a10 : Nat) (af3 : Nat → Int32) (af5 : Nat → Int32) (af6 : Nat → Int32) (af7 : Nat → Int32) (af8 : Nat → Int32) : Option Value → va_W → Prop := fun rr ww => (∃ (u : Int32) (g7 : Nat → Int32) (g8 : Nat → Int32), rr = none ∧ ww = [(a0, .inr (5, [.int (nI an), .int am, .int al, .int ao, .int u, .ref a1, .ref a2, .ref a3, .ref a4, .ref a5, .ref a6, .ref a7, .ref a8, .ref a9, .ref a10])), (a3, .inl (T 0, 10, .inl af3)), (a5, .inl (T 0, 10, .inl af5)), (a6, .inl (T 0, 10, .inl af6)), (a7, .inl (T 0, 10, .inl g7)), (a8, .inl (T 0, 10, .inl g8))] ∧ (af7 j < af6 j ∧ ¬ af7 j ≤ 0 ∧ af5 j < af3 j) ∧ g7 = upd af7 j (mx0 (af7 j - ao)) ∧ u = au + nI 1) ∨ (rr = none ∧ ww = [(a0, .inr (5, [.int (nI an), .int am, .int al, .int ao, .int au, .ref a1, .ref a2, .ref a3, .ref a4, .ref a5, .ref a6, .ref a7, .ref a8, .ref a9, .ref a10])), (a3, .inl (T 0, 10, .inl af3)), (a5, .inl (T 0, 10, .inl af5)), (a6, .inl (T 0, 10, .inl af6)), (a7, .inl (T 0, 10, .inl af7)), (a8, .inl (T 0, 10, .inl af8))] ∧ (¬ (af7 j < af6 j ∧ ¬ af7 j ≤ 0 ∧ af5 j < af3 j)))
set_option maxHeartbeats 4000000 in
set_option maxRecDepth 100000 in
theorem s_burn_f (l : Launch) (D : va_G) (T : Nat → ClassId) (a0 : Nat) (j : Nat) (an : Nat) (am : Int32) (al : Int32) (ao : Int32) (au : Int32) (a1 : Nat) (a2 : Nat) (a3 : Nat) (a4 : Nat) (a5 : Nat) (a6 : Nat) (a7 : Nat) (a8 : Nat) (a9 : Nat) (a10 : Nat) (af3 : Nat → Int32) (af5 : Nat → Int32) (af6 : Nat → Int32) (af7 : Nat → Int32) (af8 : Nat → Int32) (h_j : j < 10) : Ct l yX5_burn cX5_burn 2 none 1 0 0 D T [.ref a0, .int (nI j)] [(a0, .inr (5, [.int (nI an), .int am, .int al, .int ao, .int au, .ref a1, .ref a2, .ref a3, .ref a4, .ref a5, .ref a6, .ref a7, .ref a8, .ref a9, .ref a10])), (a3, .inl (T 0, 10, .inl af3)), (a5, .inl (T 0, 10, .inl af5)), (a6, .inl (T 0, 10, .inl af6)), (a7, .inl (T 0, 10, .inl af7)), (a8, .inl (T 0, 10, .inl af8))] (q_s_burn_f T a0 j an am al ao au a1 a2 a3 a4 a5 a6 a7 a8 a9 a10 af3 af5 af6 af7 af8) := by
  refine Ct.of (cc := cX5_burn) (maxL := 2) (ret := none) (by decide) (Nat.le_of_ble_eq_true rfl) ?_
  intro p e s m args below meth c A ls hC hnm V hl
  obtain ⟨hx, hb, hr, hml, hown, hts, hlocks⟩ := id hC
  generalize hH : s.heap = H at V ⊢
  clear hH
  have hl : lv_has ls 2 [(0, .ref a0), (1, .int (nI j))] := hl
  generalize hlo : ([] : List Loc) = locs at V ⊢
  clear hlo
  refine lv_aload_n hx hb dX5_burn_0 rfl (lv_at hl 0 rfl) ?_
  refine lv_iload_n hx hb dX5_burn_1 rfl (lv_at hl 1 rfl) ?_
  refine g_callVU (nA := 1) hC V hl.1 (s_isDone l D T a0 j an am al ao au a1 a2 a3 a4 a5 a6 a7 a8 a9 a10 af6 af7 (by first | assumption | omega)) w_477 w_430 w_431 w_3 w_432 (by decide +kernel) rfl ⟨(Nat.le_of_ble_eq_true rfl), (Nat.le_of_ble_eq_true rfl)⟩ 0 (ci := 5) rfl rfl [0, 3, 4] rfl rfl (Nat.le_of_ble_eq_true rfl) dX5_burn_2 ⟨(Nat.le_of_ble_eq_true rfl), (Nat.le_of_ble_eq_true rfl)⟩ rfl (fun r w1 H locs hQ V => ?_)
  rcases hQ with ⟨rfl, rfl, f_1⟩ | ⟨rfl, rfl, f_2⟩
  · have V : gW D T A s [(a0, .inr (5, [.int (nI an), .int am, .int al, .int ao, .int au, .ref a1, .ref a2, .ref a3, .ref a4, .ref a5, .ref a6, .ref a7, .ref a8, .ref a9, .ref a10])), (a3, .inl (T 0, 10, .inl af3)), (a5, .inl (T 0, 10, .inl af5)), (a6, .inl (T 0, 10, .inl af6)), (a7, .inl (T 0, 10, .inl af7)), (a8, .inl (T 0, 10, .inl af8))] H locs := V _ [0, 2, 0] rfl rfl rfl (by decide +kernel) rfl
    show W p l e _ s m args below meth c H locs _ _ _ (F0 m 5 ls [.int (nI 1)])
    refine lv_if_ne (tgt := 73) hx hb dX5_burn_5 (by decide) (fun _ => ?_) (fun c => absurd (show (nI 1) = 0 from c) (by decide +kernel))
    exact g_vret (Qr := (q_s_burn_f T a0 j an am al ao au a1 a2 a3 a4 a5 a6 a7 a8 a9 a10 af3 af5 af6 af7 af8)) hC V ⟨(Nat.le_of_ble_eq_true rfl), (Nat.le_of_ble_eq_true rfl)⟩ (.inr ⟨rfl, rfl, (by first | exact fun q => absurd q.1 (by assumption) | exact fun q => q.2.1 (by assumption) | exact fun q => absurd q.2.2 (Int32.not_lt.mpr (by assumption)))⟩) dX5_burn_73
  · have V : gW D T A s [(a0, .inr (5, [.int (nI an), .int am, .int al, .int ao, .int au, .ref a1, .ref a2, .ref a3, .ref a4, .ref a5, .ref a6, .ref a7, .ref a8, .ref a9, .ref a10])), (a3, .inl (T 0, 10, .inl af3)), (a5, .inl (T 0, 10, .inl af5)), (a6, .inl (T 0, 10, .inl af6)), (a7, .inl (T 0, 10, .inl af7)), (a8, .inl (T 0, 10, .inl af8))] H locs := V _ [0, 2, 0] rfl rfl rfl (by decide +kernel) rfl
    show W p l e _ s m args below meth c H locs _ _ _ (F0 m 5 ls [.int (nI 0)])
    refine lv_if_ne (tgt := 73) hx hb dX5_burn_5 (by decide) (fun c => absurd (show (nI 0) = 0 by decide +kernel) c) (fun _ => ?_)
    refine lv_aload_n hx hb dX5_burn_8 rfl (lv_at hl 0 rfl) ?_
    refine g_get hC V (ci := 5) uwX5 0 rfl rfl 11 (by decide) w_77 rfl rfl dX5_burn_9 ?_
    refine lv_iload_n hx hb dX5_burn_12 rfl (lv_at hl 1 rfl) ?_
    refine g_iald hC V 4 rfl (vp_in_nI (by omega) (by omega)) (v := (af7 j)) (congrArg _ (nI_clamp (by omega))) dX5_burn_13 ?_
    refine lv_if_le (tgt := 73) hx hb dX5_burn_14 (by decide) (fun c_3 => ?_) (fun c_3 => ?_)
    · skip
      exact g_vret (Qr := (q_s_burn_f T a0 j an am al ao au a1 a2 a3 a4 a5 a6 a7 a8 a9 a10 af3 af5 af6 af7 af8)) hC V ⟨(Nat.le_of_ble_eq_true rfl), (Nat.le_of_ble_eq_true rfl)⟩ (.inr ⟨rfl, rfl, (by first | exact fun q => absurd q.1 (by assumption) | exact fun q => q.2.1 (by assumption) | exact fun q => absurd q.2.2 (Int32.not_lt.mpr (by assumption)))⟩) dX5_burn_73
    · skip
      refine lv_aload_n hx hb dX5_burn_17 rfl (lv_at hl 0 rfl) ?_
      refine g_get hC V (ci := 5) uwX5 0 rfl rfl 7 (by decide) w_62 rfl rfl dX5_burn_18 ?_
      refine lv_iload_n hx hb dX5_burn_21 rfl (lv_at hl 1 rfl) ?_
      refine g_iald hC V 1 rfl (vp_in_nI (by omega) (by omega)) (v := (af3 j)) (congrArg _ (nI_clamp (by omega))) dX5_burn_22 ?_
      refine lv_aload_n hx hb dX5_burn_23 rfl (lv_at hl 0 rfl) ?_
      refine g_get hC V (ci := 5) uwX5 0 rfl rfl 9 (by decide) w_70 rfl rfl dX5_burn_24 ?_
      refine lv_iload_n hx hb dX5_burn_27 rfl (lv_at hl 1 rfl) ?_
      refine g_iald hC V 2 rfl (vp_in_nI (by omega) (by omega)) (v := (af5 j)) (congrArg _ (nI_clamp (by omega))) dX5_burn_28 ?_
      refine lv_icmp_le (tgt := 73) hx hb dX5_burn_29 (by decide) (fun c_4 => ?_) (fun c_4 => ?_)
      · skip
        exact g_vret (Qr := (q_s_burn_f T a0 j an am al ao au a1 a2 a3 a4 a5 a6 a7 a8 a9 a10 af3 af5 af6 af7 af8)) hC V ⟨(Nat.le_of_ble_eq_true rfl), (Nat.le_of_ble_eq_true rfl)⟩ (.inr ⟨rfl, rfl, (by first | exact fun q => absurd q.1 (by assumption) | exact fun q => q.2.1 (by assumption) | exact fun q => absurd q.2.2 (Int32.not_lt.mpr (by assumption)))⟩) dX5_burn_73
      · skip
        refine lv_aload_n hx hb dX5_burn_32 rfl (lv_at hl 0 rfl) ?_
        refine g_get hC V (ci := 5) uwX5 0 rfl rfl 11 (by decide) w_77 rfl rfl dX5_burn_33 ?_
        refine lv_iload_n hx hb dX5_burn_36 rfl (lv_at hl 1 rfl) ?_
        refine lv_iconst (v := (nI 0)) hx hb dX5_burn_37 (by decide +kernel) ?_
        refine lv_aload_n hx hb dX5_burn_38 rfl (lv_at hl 0 rfl) ?_
        refine g_get hC V (ci := 5) uwX5 0 rfl rfl 11 (by decide) w_77 rfl rfl dX5_burn_39 ?_
        refine lv_iload_n hx hb dX5_burn_42 rfl (lv_at hl 1 rfl) ?_
        refine g_iald hC V 4 rfl (vp_in_nI (by omega) (by omega)) (v := (af7 j)) (congrArg _ (nI_clamp (by omega))) dX5_burn_43 ?_
        refine lv_aload_n hx hb dX5_burn_44 rfl (lv_at hl 0 rfl) ?_
        refine g_get hC V (ci := 5) uwX5 0 rfl rfl 3 (by decide) w_45 rfl rfl dX5_burn_45 ?_
        refine lv_isub hx hb dX5_burn_48 ?_
        refine va_mmax hx hb (hml.trans hl.1.symm) hown (hts _ w_496) (hts _ w_392) (hts _ w_10) (hts _ w_393) (Nat.le_of_ble_eq_true rfl) (Nat.le_of_ble_eq_true rfl) (Nat.le_of_ble_eq_true rfl) (Nat.le_of_ble_eq_true rfl) dX5_burn_49 ?_
        refine g_iast hC V 4 rfl (vp_in_nI (by omega) (by omega)) (f' := (upd af7 j (if (nI 0) < ((af7 j) - ao) then ((af7 j) - ao) else (nI 0)))) (by rw [nI_clamp (by omega)]) (ws' := [(a0, .inr (5, [.int (nI an), .int am, .int al, .int ao, .int au, .ref a1, .ref a2, .ref a3, .ref a4, .ref a5, .ref a6, .ref a7, .ref a8, .ref a9, .ref a10])), (a3, .inl (T 0, 10, .inl af3)), (a5, .inl (T 0, 10, .inl af5)), (a6, .inl (T 0, 10, .inl af6)), (a7, .inl (T 0, 10, .inl (upd af7 j (if (nI 0) < ((af7 j) - ao) then ((af7 j) - ao) else (nI 0))))), (a8, .inl (T 0, 10, .inl af8))]) rfl dX5_burn_52 (fun H locs V => ?_)
        refine lv_aload_n hx hb dX5_burn_53 rfl (lv_at hl 0 rfl) ?_
        refine g_get hC V (ci := 5) uwX5 0 rfl rfl 12 (by decide) w_80 rfl rfl dX5_burn_54 ?_
        refine lv_iload_n hx hb dX5_burn_57 rfl (lv_at hl 1 rfl) ?_
        refine lv_dup2_11 hx hb dX5_burn_58 rfl rfl ?_
        refine g_iald hC V 5 rfl (vp_in_nI (by omega) (by omega)) (v := (af8 j)) (congrArg _ (nI_clamp (by omega))) dX5_burn_59 ?_
        refine lv_iconst (v := (nI 1)) hx hb dX5_burn_60 (by decide +kernel) ?_
        refine lv_iadd hx hb dX5_burn_61 ?_
        refine g_iast hC V 5 rfl (vp_in_nI (by omega) (by omega)) (f' := (upd af8 j ((af8 j) + (nI 1)))) (by rw [nI_clamp (by omega)]) (ws' := [(a0, .inr (5, [.int (nI an), .int am, .int al, .int ao, .int au, .ref a1, .ref a2, .ref a3, .ref a4, .ref a5, .ref a6, .ref a7, .ref a8, .ref a9, .ref a10])), (a3, .inl (T 0, 10, .inl af3)), (a5, .inl (T 0, 10, .inl af5)), (a6, .inl (T 0, 10, .inl af6)), (a7, .inl (T 0, 10, .inl (upd af7 j (if (nI 0) < ((af7 j) - ao) then ((af7 j) - ao) else (nI 0))))), (a8, .inl (T 0, 10, .inl (upd af8 j ((af8 j) + (nI 1)))))]) rfl dX5_burn_62 (fun H locs V => ?_)
        refine lv_aload_n hx hb dX5_burn_63 rfl (lv_at hl 0 rfl) ?_
        refine lv_dup hx hb dX5_burn_64 rfl ?_
        refine g_get hC V (ci := 5) uwX5 0 rfl rfl 4 (by decide) w_49 rfl rfl dX5_burn_65 ?_
        refine lv_iconst (v := (nI 1)) hx hb dX5_burn_68 (by decide +kernel) ?_
        refine lv_iadd hx hb dX5_burn_69 ?_
        refine g_put hC V (ci := 5) uwX5 tyX5 tyX5_ok nmX5 0 rfl rfl 4 (by decide) w_49 rfl rfl rfl rfl (Nat.le_of_ble_eq_true rfl) (ws' := [(a0, .inr (5, [.int (nI an), .int am, .int al, .int ao, .int (au + (nI 1)), .ref a1, .ref a2, .ref a3, .ref a4, .ref a5, .ref a6, .ref a7, .ref a8, .ref a9, .ref a10])), (a3, .inl (T 0, 10, .inl af3)), (a5, .inl (T 0, 10, .inl af5)), (a6, .inl (T 0, 10, .inl af6)), (a7, .inl (T 0, 10, .inl (upd af7 j (if (nI 0) < ((af7 j) - ao) then ((af7 j) - ao) else (nI 0))))), (a8, .inl (T 0, 10, .inl (upd af8 j ((af8 j) + (nI 1)))))]) rfl dX5_burn_70 (fun H locs V => ?_)
        exact g_vret (Qr := (q_s_burn_f T a0 j an am al ao au a1 a2 a3 a4 a5 a6 a7 a8 a9 a10 af3 af5 af6 af7 af8)) hC V ⟨(Nat.le_of_ble_eq_true rfl), (Nat.le_of_ble_eq_true rfl)⟩ (.inl ⟨(au + (nI 1)), (upd af7 j (if (nI 0) < ((af7 j) - ao) then ((af7 j) - ao) else (nI 0))), (upd af8 j ((af8 j) + (nI 1))), rfl, rfl, ⟨by assumption, by assumption, Int32.not_le.mp (by assumption)⟩, rfl, rfl⟩) dX5_burn_73

def q_s_pass_f (T : Nat → ClassId) (fa : Nat → Int32) (a0 : Nat) (pl : Int32) (sk : Int32) (sf : Int32) (sb : Int32) (an : Nat) (am : Int32) (al : Int32) (ao : Int32) (au : Int32) (a1 : Nat) (a2 : Nat) (a3 : Nat) (a4 : Nat) (a5 : Nat) (a6 : Nat) (a7 : Nat) (a8 : Nat) (a9 : Nat) (a10 : Nat) (af1 : Nat → Int32) (af2 : Nat → Int32) (af3 : Nat → Int32) (af4 : Nat → Int32) (af5 : Nat → Int32) (af6 : Nat → Int32) (af7 : Nat → Int32) (af8 : Nat → Int32) (af9 : Nat → Int32) (af10 : Nat → Int32) : Option Value → va_W → Prop := fun rr ww => (∃ (z : Int32) (u : Int32) (g3 : Nat → Int32) (g7 : Nat → Int32) (g8 : Nat → Int32) (g10 : Nat → Int32), rr = some (.int z) ∧ ww = [(a0, .inr (5, [.int (nI an), .int (am + (nI 1)), .int al, .int ao, .int u, .ref a1, .ref a2, .ref a3, .ref a4, .ref a5, .ref a6, .ref a7, .ref a8, .ref a9, .ref a10])), (a1, .inl (T 0, 10, .inl af1)), (a2, .inl (T 0, 10, .inl af2)), (a3, .inl (T 0, 10, .inl g3)), (a4, .inl (T 0, 10, .inl af4)), (a5, .inl (T 0, 10, .inl af5)), (a6, .inl (T 0, 10, .inl af6)), (a7, .inl (T 0, 10, .inl g7)), (a8, .inl (T 0, 10, .inl g8)), (a9, .inl (T 0, 10, .inl af9)), (a10, .inl (T 0, 10, .inl g10))] ∧ z = goC fa sk an ∧ (∀ i, i < an → g3 i = hNw an fa pl sf sb i) ∧ (∀ i, i < an → g7 i = st2 an fa pl sk sf sb i) ∧ u = au + goB an fa pl sk sf sb an)
set_option maxHeartbeats 4000000 in
set_option maxRecDepth 100000 in
theorem s_pass_f (l : Launch) (D : va_G) (T : Nat → ClassId) (fa : Nat → Int32) (a0 : Nat) (pl : Int32) (sk : Int32) (sf : Int32) (sb : Int32) (an : Nat) (am : Int32) (al : Int32) (ao : Int32) (au : Int32) (a1 : Nat) (a2 : Nat) (a3 : Nat) (a4 : Nat) (a5 : Nat) (a6 : Nat) (a7 : Nat) (a8 : Nat) (a9 : Nat) (a10 : Nat) (af1 : Nat → Int32) (af2 : Nat → Int32) (af3 : Nat → Int32) (af4 : Nat → Int32) (af5 : Nat → Int32) (af6 : Nat → Int32) (af7 : Nat → Int32) (af8 : Nat → Int32) (af9 : Nat → Int32) (af10 : Nat → Int32) (h_n : an ≤ 10) (h_t : ∀ i, i < an → bd (af9 i) an) (h_s1 : ∀ i, i < an → af1 i = fa (4 + i)) (h_s2 : ∀ i, i < an → af2 i = fa (14 + i)) (h_s3 : ∀ i, i < an → af3 i = fa (24 + i)) (h_s4 : ∀ i, i < an → af4 i = fa (34 + i)) (h_s5 : ∀ i, i < an → af5 i = fa (44 + i)) (h_s6 : ∀ i, i < an → af6 i = fa (54 + i)) (h_s7 : ∀ i, i < an → af7 i = fa (64 + i)) (h_s9 : ∀ i, i < an → af9 i = fa (84 + i)) (h_o : ao = fa 2) (h_a : MI an fa) : Ct l yX5_pass cX5_pass 7 (some .int) 2 0 0 D T [.ref a0, .int pl, .int sk, .int sf, .int sb] [(a0, .inr (5, [.int (nI an), .int am, .int al, .int ao, .int au, .ref a1, .ref a2, .ref a3, .ref a4, .ref a5, .ref a6, .ref a7, .ref a8, .ref a9, .ref a10])), (a1, .inl (T 0, 10, .inl af1)), (a2, .inl (T 0, 10, .inl af2)), (a3, .inl (T 0, 10, .inl af3)), (a4, .inl (T 0, 10, .inl af4)), (a5, .inl (T 0, 10, .inl af5)), (a6, .inl (T 0, 10, .inl af6)), (a7, .inl (T 0, 10, .inl af7)), (a8, .inl (T 0, 10, .inl af8)), (a9, .inl (T 0, 10, .inl af9)), (a10, .inl (T 0, 10, .inl af10))] (q_s_pass_f T fa a0 pl sk sf sb an am al ao au a1 a2 a3 a4 a5 a6 a7 a8 a9 a10 af1 af2 af3 af4 af5 af6 af7 af8 af9 af10) := by
  refine Ct.of (cc := cX5_pass) (maxL := 7) (ret := (some .int)) (by decide) (Nat.le_of_ble_eq_true rfl) ?_
  intro p e s m args below meth c A ls hC hnm V hl
  obtain ⟨hx, hb, hr, hml, hown, hts, hlocks⟩ := id hC
  generalize hH : s.heap = H at V ⊢
  clear hH
  have hl : lv_has ls 7 [(0, .ref a0), (1, .int pl), (2, .int sk), (3, .int sf), (4, .int sb)] := hl
  generalize hlo : ([] : List Loc) = locs at V ⊢
  clear hlo
  refine lv_iconst (v := (nI 0)) hx hb dX5_pass_0 (by decide +kernel) ?_
  refine lv_istore (lv' := [(5, .int (nI 0)), (0, .ref a0), (1, .int pl), (2, .int sk), (3, .int sf), (4, .int sb)]) hx hb dX5_pass_1 hl (by decide) rfl (fun ls hl => ?_)
  refine lv_iconst (v := (nI 0)) hx hb dX5_pass_3 (by decide +kernel) ?_
  refine lv_istore (lv' := [(6, .int (nI 0)), (5, .int (nI 0)), (0, .ref a0), (1, .int pl), (2, .int sk), (3, .int sf), (4, .int sb)]) hx hb dX5_pass_4 hl (by decide) rfl (fun ls hl => ?_)
  have L_1 : ∀ (fu : Nat) (k6 : Nat) (x5 : Int32) (ga : Nat → Int32), k6 ≤ an → (∀ i, i < k6 → ga i = st1 fa sk i) → (∀ i, k6 ≤ i → i < an → ga i = fa (64 + i)) → x5 = goC fa sk k6 → an - k6 < fu → ∀ (H : Heap) (locs : List Loc) (ls : Array Slot), gW D T A s [(a0, .inr (5, [.int (nI an), .int am, .int al, .int ao, .int au, .ref a1, .ref a2, .ref a3, .ref a4, .ref a5, .ref a6, .ref a7, .ref a8, .ref a9, .ref a10])), (a1, .inl (T 0, 10, .inl af1)), (a2, .inl (T 0, 10, .inl af2)), (a3, .inl (T 0, 10, .inl af3)), (a4, .inl (T 0, 10, .inl af4)), (a5, .inl (T 0, 10, .inl af5)), (a6, .inl (T 0, 10, .inl af6)), (a7, .inl (T 0, 10, .inl ga)), (a8, .inl (T 0, 10, .inl af8)), (a9, .inl (T 0, 10, .inl af9)), (a10, .inl (T 0, 10, .inl af10))] H locs → lv_has ls 7 [(6, .int (nI k6)), (5, .int x5), (0, .ref a0), (1, .int pl), (2, .int sk), (3, .int sf), (4, .int sb)] → W p l e (rmD 2 0 0) s m args below meth c H locs 0 0 (MQ below (gQ D A (q_s_pass_f T fa a0 pl sk sf sb an am al ao au a1 a2 a3 a4 a5 a6 a7 a8 a9 a10 af1 af2 af3 af4 af5 af6 af7 af8 af9 af10)) args s 0 0 A) (F0 m 6 ls []) := by
    intro fu_6
    induction fu_6 with
    | zero => intro k6 x5 ga hk6 hB hUU hCn hmu; exact absurd hmu (Nat.not_lt_zero _)
    | succ fu_6 ih_6 =>
      intro k6 x5 ga hk6 hB hUU hCn hmu_6 H locs ls V hl
      refine lv_iload hx hb dX5_pass_6 (lv_at hl 0 rfl) ?_
      refine lv_aload_n hx hb dX5_pass_8 rfl (lv_at hl 2 rfl) ?_
      refine g_get hC V (ci := 5) uwX5 0 rfl rfl 0 (by decide) w_33 rfl rfl dX5_pass_9 ?_
      refine lv_icmp_ge (tgt := 53) hx hb dX5_pass_12 (by decide) (fun c_2 => ?_) (fun c_2 => ?_)
      · skip
        have c_2 := b_le (by omega) (by omega) c_2
        refine lv_aload_n hx hb dX5_pass_53 rfl (lv_at hl 2 rfl) ?_
        refine lv_iload_n hx hb dX5_pass_54 rfl (lv_at hl 3 rfl) ?_
        refine g_callVU (nA := 1) hC V hl.1 (s_weigh_f l D T fa a0 pl an am al ao au a1 a2 a3 a4 a5 a6 a7 a8 a9 a10 af1 af2 af9 af10 (by first | assumption | omega) (by first | assumption | omega) (by first | assumption | omega) (by first | assumption | omega) (by first | assumption | omega)) w_482 w_484 w_s9 w_3 w_485 (by decide +kernel) rfl ⟨(Nat.le_of_ble_eq_true rfl), (Nat.le_of_ble_eq_true rfl)⟩ 0 (ci := 5) rfl rfl [0, 1, 2, 9, 10] rfl rfl (Nat.le_of_ble_eq_true rfl) dX5_pass_55 ⟨(Nat.le_of_ble_eq_true rfl), (Nat.le_of_ble_eq_true rfl)⟩ rfl (fun r w1 H locs hQ V => ?_)
        obtain ⟨g10_3, rfl, rfl, f_4⟩ := hQ
        have V : gW D T A s [(a0, .inr (5, [.int (nI an), .int am, .int al, .int ao, .int au, .ref a1, .ref a2, .ref a3, .ref a4, .ref a5, .ref a6, .ref a7, .ref a8, .ref a9, .ref a10])), (a1, .inl (T 0, 10, .inl af1)), (a2, .inl (T 0, 10, .inl af2)), (a3, .inl (T 0, 10, .inl af3)), (a4, .inl (T 0, 10, .inl af4)), (a5, .inl (T 0, 10, .inl af5)), (a6, .inl (T 0, 10, .inl af6)), (a7, .inl (T 0, 10, .inl ga)), (a8, .inl (T 0, 10, .inl af8)), (a9, .inl (T 0, 10, .inl af9)), (a10, .inl (T 0, 10, .inl g10_3))] H locs := V _ [0, 0, 0, 6, 0] rfl rfl rfl (by decide +kernel) rfl
        show W p l e _ s m args below meth c H locs _ _ _ (F0 m 58 ls [])
        have hw10 := f_4
        refine lv_aload_n hx hb dX5_pass_58 rfl (lv_at hl 2 rfl) ?_
        refine lv_iload_n hx hb dX5_pass_59 rfl (lv_at hl 5 rfl) ?_
        refine g_callVU (nA := 1) hC V hl.1 (s_isSmith l D T a0 sf an am al ao au a1 a2 a3 a4 a5 a6 a7 a8 a9 a10 (by first | assumption | omega)) w_486 w_426 w_427 w_3 w_428 (by decide +kernel) rfl ⟨(Nat.le_of_ble_eq_true rfl), (Nat.le_of_ble_eq_true rfl)⟩ 0 (ci := 5) rfl rfl [0] rfl rfl (Nat.le_of_ble_eq_true rfl) dX5_pass_60 ⟨(Nat.le_of_ble_eq_true rfl), (Nat.le_of_ble_eq_true rfl)⟩ rfl (fun r w1 H locs hQ V => ?_)
        rcases hQ with ⟨j_5, rfl, rfl, f_6, f_7⟩ | ⟨rfl, rfl, f_8⟩
        · have V : gW D T A s [(a0, .inr (5, [.int (nI an), .int am, .int al, .int ao, .int au, .ref a1, .ref a2, .ref a3, .ref a4, .ref a5, .ref a6, .ref a7, .ref a8, .ref a9, .ref a10])), (a1, .inl (T 0, 10, .inl af1)), (a2, .inl (T 0, 10, .inl af2)), (a3, .inl (T 0, 10, .inl af3)), (a4, .inl (T 0, 10, .inl af4)), (a5, .inl (T 0, 10, .inl af5)), (a6, .inl (T 0, 10, .inl af6)), (a7, .inl (T 0, 10, .inl ga)), (a8, .inl (T 0, 10, .inl af8)), (a9, .inl (T 0, 10, .inl af9)), (a10, .inl (T 0, 10, .inl g10_3))] H locs := V _ [0] rfl rfl rfl (by decide +kernel) rfl
          show W p l e _ s m args below meth c H locs _ _ _ (F0 m 63 ls [.int (nI 1)])
          rw [f_6] at hl
          have hsf := f_6
          have hch := ch_in (sb := sb) h_n f_6 f_7 hw10
          refine lv_if_eq (tgt := 77) hx hb dX5_pass_63 (by decide) (fun c => absurd (show (nI 1) = 0 from c) (by decide +kernel)) (fun _ => ?_)
          refine lv_aload_n hx hb dX5_pass_66 rfl (lv_at hl 2 rfl) ?_
          refine g_get hC V (ci := 5) uwX5 0 rfl rfl 14 (by decide) w_86 rfl rfl dX5_pass_67 ?_
          refine lv_iload_n hx hb dX5_pass_70 rfl (lv_at hl 5 rfl) ?_
          refine lv_dup2_11 hx hb dX5_pass_71 rfl rfl ?_
          refine g_iald hC V 10 rfl (vp_in_nI (by omega) (by omega)) (v := (g10_3 j_5)) (congrArg _ (nI_clamp (by omega))) dX5_pass_72 ?_
          refine lv_iload hx hb dX5_pass_73 (lv_at hl 6 rfl) ?_
          refine lv_iadd hx hb dX5_pass_75 ?_
          refine g_iast hC V 10 rfl (vp_in_nI (by omega) (by omega)) (f' := (upd g10_3 j_5 ((g10_3 j_5) + sb))) (by rw [nI_clamp (by omega)]) (ws' := [(a0, .inr (5, [.int (nI an), .int am, .int al, .int ao, .int au, .ref a1, .ref a2, .ref a3, .ref a4, .ref a5, .ref a6, .ref a7, .ref a8, .ref a9, .ref a10])), (a1, .inl (T 0, 10, .inl af1)), (a2, .inl (T 0, 10, .inl af2)), (a3, .inl (T 0, 10, .inl af3)), (a4, .inl (T 0, 10, .inl af4)), (a5, .inl (T 0, 10, .inl af5)), (a6, .inl (T 0, 10, .inl af6)), (a7, .inl (T 0, 10, .inl ga)), (a8, .inl (T 0, 10, .inl af8)), (a9, .inl (T 0, 10, .inl af9)), (a10, .inl (T 0, 10, .inl (upd g10_3 j_5 ((g10_3 j_5) + sb))))]) rfl dX5_pass_76 (fun H locs V => ?_)
          refine lv_iconst (v := (nI 0)) hx hb dX5_pass_77 (by decide +kernel) ?_
          refine lv_istore (lv' := [(6, .int (nI 0)), (5, .int x5), (0, .ref a0), (1, .int pl), (2, .int sk), (3, .int (nI j_5)), (4, .int sb)]) hx hb dX5_pass_78 hl (by decide) rfl (fun ls hl => ?_)
          have L_9 : ∀ (fu : Nat) (k80 : Nat) (uv : Int32) (gb : Nat → Int32) (gc : Nat → Int32) (gd : Nat → Int32), k80 ≤ an → (∀ i, i < k80 → gb i = hNw an fa pl sf sb i) → (∀ i, k80 ≤ i → i < an → gb i = fa (24 + i)) → (∀ i, i < k80 → gc i = st2 an fa pl sk sf sb i) → (∀ i, k80 ≤ i → i < an → gc i = st1 fa sk i) → uv = au + goB an fa pl sk sf sb k80 → an - k80 < fu → ∀ (H : Heap) (locs : List Loc) (ls : Array Slot), gW D T A s [(a0, .inr (5, [.int (nI an), .int am, .int al, .int ao, .int uv, .ref a1, .ref a2, .ref a3, .ref a4, .ref a5, .ref a6, .ref a7, .ref a8, .ref a9, .ref a10])), (a1, .inl (T 0, 10, .inl af1)), (a2, .inl (T 0, 10, .inl af2)), (a3, .inl (T 0, 10, .inl gb)), (a4, .inl (T 0, 10, .inl af4)), (a5, .inl (T 0, 10, .inl af5)), (a6, .inl (T 0, 10, .inl af6)), (a7, .inl (T 0, 10, .inl gc)), (a8, .inl (T 0, 10, .inl gd)), (a9, .inl (T 0, 10, .inl af9)), (a10, .inl (T 0, 10, .inl (upd g10_3 j_5 ((g10_3 j_5) + sb))))] H locs → lv_has ls 7 [(6, .int (nI k80)), (5, .int x5), (0, .ref a0), (1, .int pl), (2, .int sk), (3, .int (nI j_5)), (4, .int sb)] → W p l e (rmD 2 0 0) s m args below meth c H locs 0 0 (MQ below (gQ D A (q_s_pass_f T fa a0 pl sk sf sb an am al ao au a1 a2 a3 a4 a5 a6 a7 a8 a9 a10 af1 af2 af3 af4 af5 af6 af7 af8 af9 af10)) args s 0 0 A) (F0 m 80 ls []) := by
            intro fu_80
            induction fu_80 with
            | zero => intro k80 uv gb gc gd hk80 hb1 hb2 hc1 hc2 huv hmu; exact absurd hmu (Nat.not_lt_zero _)
            | succ fu_80 ih_80 =>
              intro k80 uv gb gc gd hk80 hb1 hb2 hc1 hc2 huv hmu_80 H locs ls V hl
              refine lv_iload hx hb dX5_pass_80 (lv_at hl 0 rfl) ?_
              refine lv_aload_n hx hb dX5_pass_82 rfl (lv_at hl 2 rfl) ?_
              refine g_get hC V (ci := 5) uwX5 0 rfl rfl 0 (by decide) w_33 rfl rfl dX5_pass_83 ?_
              refine lv_icmp_ge (tgt := 126) hx hb dX5_pass_86 (by decide) (fun c_10 => ?_) (fun c_10 => ?_)
              · skip
                have c_10 := b_le (by omega) (by omega) c_10
                refine lv_aload_n hx hb dX5_pass_126 rfl (lv_at hl 2 rfl) ?_
                refine lv_dup hx hb dX5_pass_127 rfl ?_
                refine g_get hC V (ci := 5) uwX5 0 rfl rfl 1 (by decide) w_39 rfl rfl dX5_pass_128 ?_
                refine lv_iconst (v := (nI 1)) hx hb dX5_pass_131 (by decide +kernel) ?_
                refine lv_iadd hx hb dX5_pass_132 ?_
                refine g_put hC V (ci := 5) uwX5 tyX5 tyX5_ok nmX5 0 rfl rfl 1 (by decide) w_39 rfl rfl rfl rfl (Nat.le_of_ble_eq_true rfl) (ws' := [(a0, .inr (5, [.int (nI an), .int (am + (nI 1)), .int al, .int ao, .int uv, .ref a1, .ref a2, .ref a3, .ref a4, .ref a5, .ref a6, .ref a7, .ref a8, .ref a9, .ref a10])), (a1, .inl (T 0, 10, .inl af1)), (a2, .inl (T 0, 10, .inl af2)), (a3, .inl (T 0, 10, .inl gb)), (a4, .inl (T 0, 10, .inl af4)), (a5, .inl (T 0, 10, .inl af5)), (a6, .inl (T 0, 10, .inl af6)), (a7, .inl (T 0, 10, .inl gc)), (a8, .inl (T 0, 10, .inl gd)), (a9, .inl (T 0, 10, .inl af9)), (a10, .inl (T 0, 10, .inl (upd g10_3 j_5 ((g10_3 j_5) + sb))))]) rfl dX5_pass_133 (fun H locs V => ?_)
                refine lv_iload hx hb dX5_pass_136 (lv_at hl 1 rfl) ?_
                exact g_iret (Qr := (q_s_pass_f T fa a0 pl sk sf sb an am al ao au a1 a2 a3 a4 a5 a6 a7 a8 a9 a10 af1 af2 af3 af4 af5 af6 af7 af8 af9 af10)) hC V ⟨(Nat.le_of_ble_eq_true rfl), (Nat.le_of_ble_eq_true rfl)⟩ ⟨x5, uv, gb, gc, gd, (upd g10_3 j_5 ((g10_3 j_5) + sb)), rfl, rfl, (by rw [hCn]; congr 1; omega), (fun i hi => hb1 i (by omega)), (fun i hi => hc1 i (by omega)), (by rw [huv]; congr 2; omega)⟩ dX5_pass_138
              · skip
                have c_10 := b_nle (by omega) (by omega) c_10
                refine lv_aload_n hx hb dX5_pass_89 rfl (lv_at hl 2 rfl) ?_
                refine g_get hC V (ci := 5) uwX5 0 rfl rfl 7 (by decide) w_62 rfl rfl dX5_pass_90 ?_
                refine lv_iload hx hb dX5_pass_93 (lv_at hl 0 rfl) ?_
                refine lv_aload_n hx hb dX5_pass_95 rfl (lv_at hl 2 rfl) ?_
                refine g_get hC V (ci := 5) uwX5 0 rfl rfl 7 (by decide) w_62 rfl rfl dX5_pass_96 ?_
                refine lv_iload hx hb dX5_pass_99 (lv_at hl 0 rfl) ?_
                refine g_iald hC V 3 rfl (vp_in_nI (by omega) (by omega)) (v := (gb k80)) (congrArg _ (nI_clamp (by omega))) dX5_pass_101 ?_
                refine lv_aload_n hx hb dX5_pass_102 rfl (lv_at hl 2 rfl) ?_
                refine g_get hC V (ci := 5) uwX5 0 rfl rfl 14 (by decide) w_86 rfl rfl dX5_pass_103 ?_
                refine lv_iload hx hb dX5_pass_106 (lv_at hl 0 rfl) ?_
                refine g_iald hC V 10 rfl (vp_in_nI (by omega) (by omega)) (v := ((upd g10_3 j_5 ((g10_3 j_5) + sb)) k80)) (congrArg _ (nI_clamp (by omega))) dX5_pass_108 ?_
                refine lv_iadd hx hb dX5_pass_109 ?_
                refine g_callSNU (nA := 1) (host := RX7) hC V hl.1 (c_bounded_f l D T ((gb k80) + ((upd g10_3 j_5 ((g10_3 j_5) + sb)) k80))) w_489 (List.mem_of_getElem? (i := 14) rfl) w_2 w_488 (by decide +kernel) rfl ⟨(Nat.le_of_ble_eq_true rfl), (Nat.le_of_ble_eq_true rfl)⟩ [] rfl rfl (Nat.le_of_ble_eq_true rfl) dX5_pass_110 ⟨(Nat.le_of_ble_eq_true rfl), (Nat.le_of_ble_eq_true rfl)⟩ rfl (fun r w1 H locs hQ V => ?_)
                obtain ⟨z_11, rfl, rfl, f_12⟩ := hQ
                have V : gW D T A s [(a0, .inr (5, [.int (nI an), .int am, .int al, .int ao, .int uv, .ref a1, .ref a2, .ref a3, .ref a4, .ref a5, .ref a6, .ref a7, .ref a8, .ref a9, .ref a10])), (a1, .inl (T 0, 10, .inl af1)), (a2, .inl (T 0, 10, .inl af2)), (a3, .inl (T 0, 10, .inl gb)), (a4, .inl (T 0, 10, .inl af4)), (a5, .inl (T 0, 10, .inl af5)), (a6, .inl (T 0, 10, .inl af6)), (a7, .inl (T 0, 10, .inl gc)), (a8, .inl (T 0, 10, .inl gd)), (a9, .inl (T 0, 10, .inl af9)), (a10, .inl (T 0, 10, .inl (upd g10_3 j_5 ((g10_3 j_5) + sb))))] H locs := V _ [] rfl rfl rfl (by decide +kernel) rfl
                show W p l e _ s m args below meth c H locs _ _ _ (F0 m 113 ls [.int z_11, .int (nI k80), .ref a3])
                have hz80 : z_11 = hNw an fa pl sf sb k80 := hN_c (hb2 k80 (Nat.le_refl _) (by omega)) (hch k80 (by omega)) f_12
                refine g_iast hC V 3 rfl (vp_in_nI (by omega) (by omega)) (f' := (upd gb k80 z_11)) (by rw [nI_clamp (by omega)]) (ws' := [(a0, .inr (5, [.int (nI an), .int am, .int al, .int ao, .int uv, .ref a1, .ref a2, .ref a3, .ref a4, .ref a5, .ref a6, .ref a7, .ref a8, .ref a9, .ref a10])), (a1, .inl (T 0, 10, .inl af1)), (a2, .inl (T 0, 10, .inl af2)), (a3, .inl (T 0, 10, .inl (upd gb k80 z_11))), (a4, .inl (T 0, 10, .inl af4)), (a5, .inl (T 0, 10, .inl af5)), (a6, .inl (T 0, 10, .inl af6)), (a7, .inl (T 0, 10, .inl gc)), (a8, .inl (T 0, 10, .inl gd)), (a9, .inl (T 0, 10, .inl af9)), (a10, .inl (T 0, 10, .inl (upd g10_3 j_5 ((g10_3 j_5) + sb))))]) rfl dX5_pass_113 (fun H locs V => ?_)
                refine lv_aload_n hx hb dX5_pass_114 rfl (lv_at hl 2 rfl) ?_
                refine lv_iload hx hb dX5_pass_115 (lv_at hl 0 rfl) ?_
                refine g_callVU (nA := 1) hC V hl.1 (s_burn_f l D T a0 k80 an am al ao uv a1 a2 a3 a4 a5 a6 a7 a8 a9 a10 (upd gb k80 z_11) af5 af6 gc gd (by first | assumption | omega)) w_492 w_494 w_s10 w_3 w_495 (by decide +kernel) rfl ⟨(Nat.le_of_ble_eq_true rfl), (Nat.le_of_ble_eq_true rfl)⟩ 0 (ci := 5) rfl rfl [0, 3, 5, 6, 7, 8] rfl rfl (Nat.le_of_ble_eq_true rfl) dX5_pass_117 ⟨(Nat.le_of_ble_eq_true rfl), (Nat.le_of_ble_eq_true rfl)⟩ rfl (fun r w1 H locs hQ V => ?_)
                rcases hQ with ⟨u_13, g7_14, g8_15, rfl, rfl, f_16, f_17, f_18⟩ | ⟨rfl, rfl, f_19⟩
                · have V : gW D T A s [(a0, .inr (5, [.int (nI an), .int am, .int al, .int ao, .int u_13, .ref a1, .ref a2, .ref a3, .ref a4, .ref a5, .ref a6, .ref a7, .ref a8, .ref a9, .ref a10])), (a1, .inl (T 0, 10, .inl af1)), (a2, .inl (T 0, 10, .inl af2)), (a3, .inl (T 0, 10, .inl (upd gb k80 z_11))), (a4, .inl (T 0, 10, .inl af4)), (a5, .inl (T 0, 10, .inl af5)), (a6, .inl (T 0, 10, .inl af6)), (a7, .inl (T 0, 10, .inl g7_14)), (a8, .inl (T 0, 10, .inl g8_15)), (a9, .inl (T 0, 10, .inl af9)), (a10, .inl (T 0, 10, .inl (upd g10_3 j_5 ((g10_3 j_5) + sb))))] H locs := V _ [0, 2, 1, 0, 0, 0] rfl rfl rfl (by decide +kernel) rfl
                  show W p l e _ s m args below meth c H locs _ _ _ (F0 m 120 ls [])
                  have hbu := cb_y (sk := sk) h_a (by omega) (hc2 k80 (Nat.le_refl _) (by omega)) (h_s6 _ (by omega)) (h_s5 _ (by omega)) (up_same.trans hz80) f_16.1 f_16.2.1 f_16.2.2
                  refine lv_iinc (v := (nI (k80 + 1))) (lv' := [(6, .int (nI (k80 + 1))), (5, .int x5), (0, .ref a0), (1, .int pl), (2, .int sk), (3, .int (nI j_5)), (4, .int sb)]) hx hb dX5_pass_120 hl (k := 0) rfl (nI_1 _) (by decide) rfl (fun ls hl => ?_)
                  refine lv_goto (tgt := 80) hx hb dX5_pass_123 (by decide) ?_
                  exact ih_80 (k80 + 1) u_13 (upd gb k80 z_11) g7_14 g8_15 (by omega) (up_one (p := fun i x => x = hNw an fa pl sf sb i) hb1 hz80) (fun i h1 h2 => (up_other (by omega)).trans (hb2 i (by omega) h2)) (fun i hi => by rw [f_17]; exact up_one (p := fun i x => x = st2 an fa pl sk sf sb i) hc1 (s2_y h_a (by omega) (hc2 k80 (Nat.le_refl _) (by omega)) h_o hbu) i hi) (fun i h1 h2 => by rw [f_17, up_other (by omega)]; exact hc2 i (by omega) h2) (by rw [f_18, huv]; exact gBB_y hbu) (by omega) _ _ _ V (lv_sub hl [0, 1, 2, 3, 4, 5, 6] rfl)
                · have V : gW D T A s [(a0, .inr (5, [.int (nI an), .int am, .int al, .int ao, .int uv, .ref a1, .ref a2, .ref a3, .ref a4, .ref a5, .ref a6, .ref a7, .ref a8, .ref a9, .ref a10])), (a1, .inl (T 0, 10, .inl af1)), (a2, .inl (T 0, 10, .inl af2)), (a3, .inl (T 0, 10, .inl (upd gb k80 z_11))), (a4, .inl (T 0, 10, .inl af4)), (a5, .inl (T 0, 10, .inl af5)), (a6, .inl (T 0, 10, .inl af6)), (a7, .inl (T 0, 10, .inl gc)), (a8, .inl (T 0, 10, .inl gd)), (a9, .inl (T 0, 10, .inl af9)), (a10, .inl (T 0, 10, .inl (upd g10_3 j_5 ((g10_3 j_5) + sb))))] H locs := V _ [0, 2, 1, 0, 0, 0] rfl rfl rfl (by decide +kernel) rfl
                  show W p l e _ s m args below meth c H locs _ _ _ (F0 m 120 ls [])
                  have hnb := cb_n (sk := sk) h_a (by omega) (hc2 k80 (Nat.le_refl _) (by omega)) (h_s6 _ (by omega)) (h_s5 _ (by omega)) (up_same.trans hz80) f_19
                  refine lv_iinc (v := (nI (k80 + 1))) (lv' := [(6, .int (nI (k80 + 1))), (5, .int x5), (0, .ref a0), (1, .int pl), (2, .int sk), (3, .int (nI j_5)), (4, .int sb)]) hx hb dX5_pass_120 hl (k := 0) rfl (nI_1 _) (by decide) rfl (fun ls hl => ?_)
                  refine lv_goto (tgt := 80) hx hb dX5_pass_123 (by decide) ?_
                  exact ih_80 (k80 + 1) uv (upd gb k80 z_11) gc gd (by omega) (up_one (p := fun i x => x = hNw an fa pl sf sb i) hb1 hz80) (fun i h1 h2 => (up_other (by omega)).trans (hb2 i (by omega) h2)) (one_more hc1 (s2_n (hc2 k80 (Nat.le_refl _) (by omega)) hnb)) (fun i h1 h2 => hc2 i (by omega) h2) (by rw [huv]; exact congrArg _ (gBB_n hnb)) (by omega) _ _ _ V (lv_sub hl [0, 1, 2, 3, 4, 5, 6] rfl)
          exact L_9 _ 0 au af3 ga af8 (by omega) (fun i h => absurd h (Nat.not_lt_zero _)) (fun i _ h => h_s3 i h) (fun i h => absurd h (Nat.not_lt_zero _)) (fun i _ h => hB i (by omega)) (add_n0 _) (Nat.lt_succ_self _) _ _ _ V (lv_sub hl [0, 1, 2, 3, 4, 5, 6] rfl)
        · have V : gW D T A s [(a0, .inr (5, [.int (nI an), .int am, .int al, .int ao, .int au, .ref a1, .ref a2, .ref a3, .ref a4, .ref a5, .ref a6, .ref a7, .ref a8, .ref a9, .ref a10])), (a1, .inl (T 0, 10, .inl af1)), (a2, .inl (T 0, 10, .inl af2)), (a3, .inl (T 0, 10, .inl af3)), (a4, .inl (T 0, 10, .inl af4)), (a5, .inl (T 0, 10, .inl af5)), (a6, .inl (T 0, 10, .inl af6)), (a7, .inl (T 0, 10, .inl ga)), (a8, .inl (T 0, 10, .inl af8)), (a9, .inl (T 0, 10, .inl af9)), (a10, .inl (T 0, 10, .inl g10_3))] H locs := V _ [0] rfl rfl rfl (by decide +kernel) rfl
          show W p l e _ s m args below meth c H locs _ _ _ (F0 m 63 ls [.int (nI 0)])
          have hch := ch_out (sb := sb) h_n f_8 hw10
          refine lv_if_eq (tgt := 77) hx hb dX5_pass_63 (by decide) (fun _ => ?_) (fun c => absurd (show (nI 0) = 0 by decide +kernel) c)
          refine lv_iconst (v := (nI 0)) hx hb dX5_pass_77 (by decide +kernel) ?_
          refine lv_istore (lv' := [(6, .int (nI 0)), (5, .int x5), (0, .ref a0), (1, .int pl), (2, .int sk), (3, .int sf), (4, .int sb)]) hx hb dX5_pass_78 hl (by decide) rfl (fun ls hl => ?_)
          have L_20 : ∀ (fu : Nat) (k80 : Nat) (uv : Int32) (gb : Nat → Int32) (gc : Nat → Int32) (gd : Nat → Int32), k80 ≤ an → (∀ i, i < k80 → gb i = hNw an fa pl sf sb i) → (∀ i, k80 ≤ i → i < an → gb i = fa (24 + i)) → (∀ i, i < k80 → gc i = st2 an fa pl sk sf sb i) → (∀ i, k80 ≤ i → i < an → gc i = st1 fa sk i) → uv = au + goB an fa pl sk sf sb k80 → an - k80 < fu → ∀ (H : Heap) (locs : List Loc) (ls : Array Slot), gW D T A s [(a0, .inr (5, [.int (nI an), .int am, .int al, .int ao, .int uv, .ref a1, .ref a2, .ref a3, .ref a4, .ref a5, .ref a6, .ref a7, .ref a8, .ref a9, .ref a10])), (a1, .inl (T 0, 10, .inl af1)), (a2, .inl (T 0, 10, .inl af2)), (a3, .inl (T 0, 10, .inl gb)), (a4, .inl (T 0, 10, .inl af4)), (a5, .inl (T 0, 10, .inl af5)), (a6, .inl (T 0, 10, .inl af6)), (a7, .inl (T 0, 10, .inl gc)), (a8, .inl (T 0, 10, .inl gd)), (a9, .inl (T 0, 10, .inl af9)), (a10, .inl (T 0, 10, .inl g10_3))] H locs → lv_has ls 7 [(6, .int (nI k80)), (5, .int x5), (0, .ref a0), (1, .int pl), (2, .int sk), (3, .int sf), (4, .int sb)] → W p l e (rmD 2 0 0) s m args below meth c H locs 0 0 (MQ below (gQ D A (q_s_pass_f T fa a0 pl sk sf sb an am al ao au a1 a2 a3 a4 a5 a6 a7 a8 a9 a10 af1 af2 af3 af4 af5 af6 af7 af8 af9 af10)) args s 0 0 A) (F0 m 80 ls []) := by
            intro fu_80
            induction fu_80 with
            | zero => intro k80 uv gb gc gd hk80 hb1 hb2 hc1 hc2 huv hmu; exact absurd hmu (Nat.not_lt_zero _)
            | succ fu_80 ih_80 =>
              intro k80 uv gb gc gd hk80 hb1 hb2 hc1 hc2 huv hmu_80 H locs ls V hl
              refine lv_iload hx hb dX5_pass_80 (lv_at hl 0 rfl) ?_
              refine lv_aload_n hx hb dX5_pass_82 rfl (lv_at hl 2 rfl) ?_
              refine g_get hC V (ci := 5) uwX5 0 rfl rfl 0 (by decide) w_33 rfl rfl dX5_pass_83 ?_
              refine lv_icmp_ge (tgt := 126) hx hb dX5_pass_86 (by decide) (fun c_21 => ?_) (fun c_21 => ?_)
              · skip
                have c_21 := b_le (by omega) (by omega) c_21
                refine lv_aload_n hx hb dX5_pass_126 rfl (lv_at hl 2 rfl) ?_
                refine lv_dup hx hb dX5_pass_127 rfl ?_
                refine g_get hC V (ci := 5) uwX5 0 rfl rfl 1 (by decide) w_39 rfl rfl dX5_pass_128 ?_
                refine lv_iconst (v := (nI 1)) hx hb dX5_pass_131 (by decide +kernel) ?_
                refine lv_iadd hx hb dX5_pass_132 ?_
                refine g_put hC V (ci := 5) uwX5 tyX5 tyX5_ok nmX5 0 rfl rfl 1 (by decide) w_39 rfl rfl rfl rfl (Nat.le_of_ble_eq_true rfl) (ws' := [(a0, .inr (5, [.int (nI an), .int (am + (nI 1)), .int al, .int ao, .int uv, .ref a1, .ref a2, .ref a3, .ref a4, .ref a5, .ref a6, .ref a7, .ref a8, .ref a9, .ref a10])), (a1, .inl (T 0, 10, .inl af1)), (a2, .inl (T 0, 10, .inl af2)), (a3, .inl (T 0, 10, .inl gb)), (a4, .inl (T 0, 10, .inl af4)), (a5, .inl (T 0, 10, .inl af5)), (a6, .inl (T 0, 10, .inl af6)), (a7, .inl (T 0, 10, .inl gc)), (a8, .inl (T 0, 10, .inl gd)), (a9, .inl (T 0, 10, .inl af9)), (a10, .inl (T 0, 10, .inl g10_3))]) rfl dX5_pass_133 (fun H locs V => ?_)
                refine lv_iload hx hb dX5_pass_136 (lv_at hl 1 rfl) ?_
                exact g_iret (Qr := (q_s_pass_f T fa a0 pl sk sf sb an am al ao au a1 a2 a3 a4 a5 a6 a7 a8 a9 a10 af1 af2 af3 af4 af5 af6 af7 af8 af9 af10)) hC V ⟨(Nat.le_of_ble_eq_true rfl), (Nat.le_of_ble_eq_true rfl)⟩ ⟨x5, uv, gb, gc, gd, g10_3, rfl, rfl, (by rw [hCn]; congr 1; omega), (fun i hi => hb1 i (by omega)), (fun i hi => hc1 i (by omega)), (by rw [huv]; congr 2; omega)⟩ dX5_pass_138
              · skip
                have c_21 := b_nle (by omega) (by omega) c_21
                refine lv_aload_n hx hb dX5_pass_89 rfl (lv_at hl 2 rfl) ?_
                refine g_get hC V (ci := 5) uwX5 0 rfl rfl 7 (by decide) w_62 rfl rfl dX5_pass_90 ?_
                refine lv_iload hx hb dX5_pass_93 (lv_at hl 0 rfl) ?_
                refine lv_aload_n hx hb dX5_pass_95 rfl (lv_at hl 2 rfl) ?_
                refine g_get hC V (ci := 5) uwX5 0 rfl rfl 7 (by decide) w_62 rfl rfl dX5_pass_96 ?_
                refine lv_iload hx hb dX5_pass_99 (lv_at hl 0 rfl) ?_
                refine g_iald hC V 3 rfl (vp_in_nI (by omega) (by omega)) (v := (gb k80)) (congrArg _ (nI_clamp (by omega))) dX5_pass_101 ?_
                refine lv_aload_n hx hb dX5_pass_102 rfl (lv_at hl 2 rfl) ?_
                refine g_get hC V (ci := 5) uwX5 0 rfl rfl 14 (by decide) w_86 rfl rfl dX5_pass_103 ?_
                refine lv_iload hx hb dX5_pass_106 (lv_at hl 0 rfl) ?_
                refine g_iald hC V 10 rfl (vp_in_nI (by omega) (by omega)) (v := (g10_3 k80)) (congrArg _ (nI_clamp (by omega))) dX5_pass_108 ?_
                refine lv_iadd hx hb dX5_pass_109 ?_
                refine g_callSNU (nA := 1) (host := RX7) hC V hl.1 (c_bounded_f l D T ((gb k80) + (g10_3 k80))) w_489 (List.mem_of_getElem? (i := 14) rfl) w_2 w_488 (by decide +kernel) rfl ⟨(Nat.le_of_ble_eq_true rfl), (Nat.le_of_ble_eq_true rfl)⟩ [] rfl rfl (Nat.le_of_ble_eq_true rfl) dX5_pass_110 ⟨(Nat.le_of_ble_eq_true rfl), (Nat.le_of_ble_eq_true rfl)⟩ rfl (fun r w1 H locs hQ V => ?_)
                obtain ⟨z_22, rfl, rfl, f_23⟩ := hQ
                have V : gW D T A s [(a0, .inr (5, [.int (nI an), .int am, .int al, .int ao, .int uv, .ref a1, .ref a2, .ref a3, .ref a4, .ref a5, .ref a6, .ref a7, .ref a8, .ref a9, .ref a10])), (a1, .inl (T 0, 10, .inl af1)), (a2, .inl (T 0, 10, .inl af2)), (a3, .inl (T 0, 10, .inl gb)), (a4, .inl (T 0, 10, .inl af4)), (a5, .inl (T 0, 10, .inl af5)), (a6, .inl (T 0, 10, .inl af6)), (a7, .inl (T 0, 10, .inl gc)), (a8, .inl (T 0, 10, .inl gd)), (a9, .inl (T 0, 10, .inl af9)), (a10, .inl (T 0, 10, .inl g10_3))] H locs := V _ [] rfl rfl rfl (by decide +kernel) rfl
                show W p l e _ s m args below meth c H locs _ _ _ (F0 m 113 ls [.int z_22, .int (nI k80), .ref a3])
                have hz80 : z_22 = hNw an fa pl sf sb k80 := hN_c (hb2 k80 (Nat.le_refl _) (by omega)) (hch k80 (by omega)) f_23
                refine g_iast hC V 3 rfl (vp_in_nI (by omega) (by omega)) (f' := (upd gb k80 z_22)) (by rw [nI_clamp (by omega)]) (ws' := [(a0, .inr (5, [.int (nI an), .int am, .int al, .int ao, .int uv, .ref a1, .ref a2, .ref a3, .ref a4, .ref a5, .ref a6, .ref a7, .ref a8, .ref a9, .ref a10])), (a1, .inl (T 0, 10, .inl af1)), (a2, .inl (T 0, 10, .inl af2)), (a3, .inl (T 0, 10, .inl (upd gb k80 z_22))), (a4, .inl (T 0, 10, .inl af4)), (a5, .inl (T 0, 10, .inl af5)), (a6, .inl (T 0, 10, .inl af6)), (a7, .inl (T 0, 10, .inl gc)), (a8, .inl (T 0, 10, .inl gd)), (a9, .inl (T 0, 10, .inl af9)), (a10, .inl (T 0, 10, .inl g10_3))]) rfl dX5_pass_113 (fun H locs V => ?_)
                refine lv_aload_n hx hb dX5_pass_114 rfl (lv_at hl 2 rfl) ?_
                refine lv_iload hx hb dX5_pass_115 (lv_at hl 0 rfl) ?_
                refine g_callVU (nA := 1) hC V hl.1 (s_burn_f l D T a0 k80 an am al ao uv a1 a2 a3 a4 a5 a6 a7 a8 a9 a10 (upd gb k80 z_22) af5 af6 gc gd (by first | assumption | omega)) w_492 w_494 w_s10 w_3 w_495 (by decide +kernel) rfl ⟨(Nat.le_of_ble_eq_true rfl), (Nat.le_of_ble_eq_true rfl)⟩ 0 (ci := 5) rfl rfl [0, 3, 5, 6, 7, 8] rfl rfl (Nat.le_of_ble_eq_true rfl) dX5_pass_117 ⟨(Nat.le_of_ble_eq_true rfl), (Nat.le_of_ble_eq_true rfl)⟩ rfl (fun r w1 H locs hQ V => ?_)
                rcases hQ with ⟨u_24, g7_25, g8_26, rfl, rfl, f_27, f_28, f_29⟩ | ⟨rfl, rfl, f_30⟩
                · have V : gW D T A s [(a0, .inr (5, [.int (nI an), .int am, .int al, .int ao, .int u_24, .ref a1, .ref a2, .ref a3, .ref a4, .ref a5, .ref a6, .ref a7, .ref a8, .ref a9, .ref a10])), (a1, .inl (T 0, 10, .inl af1)), (a2, .inl (T 0, 10, .inl af2)), (a3, .inl (T 0, 10, .inl (upd gb k80 z_22))), (a4, .inl (T 0, 10, .inl af4)), (a5, .inl (T 0, 10, .inl af5)), (a6, .inl (T 0, 10, .inl af6)), (a7, .inl (T 0, 10, .inl g7_25)), (a8, .inl (T 0, 10, .inl g8_26)), (a9, .inl (T 0, 10, .inl af9)), (a10, .inl (T 0, 10, .inl g10_3))] H locs := V _ [0, 2, 1, 0, 0, 0] rfl rfl rfl (by decide +kernel) rfl
                  show W p l e _ s m args below meth c H locs _ _ _ (F0 m 120 ls [])
                  have hbu := cb_y (sk := sk) h_a (by omega) (hc2 k80 (Nat.le_refl _) (by omega)) (h_s6 _ (by omega)) (h_s5 _ (by omega)) (up_same.trans hz80) f_27.1 f_27.2.1 f_27.2.2
                  refine lv_iinc (v := (nI (k80 + 1))) (lv' := [(6, .int (nI (k80 + 1))), (5, .int x5), (0, .ref a0), (1, .int pl), (2, .int sk), (3, .int sf), (4, .int sb)]) hx hb dX5_pass_120 hl (k := 0) rfl (nI_1 _) (by decide) rfl (fun ls hl => ?_)
                  refine lv_goto (tgt := 80) hx hb dX5_pass_123 (by decide) ?_
                  exact ih_80 (k80 + 1) u_24 (upd gb k80 z_22) g7_25 g8_26 (by omega) (up_one (p := fun i x => x = hNw an fa pl sf sb i) hb1 hz80) (fun i h1 h2 => (up_other (by omega)).trans (hb2 i (by omega) h2)) (fun i hi => by rw [f_28]; exact up_one (p := fun i x => x = st2 an fa pl sk sf sb i) hc1 (s2_y h_a (by omega) (hc2 k80 (Nat.le_refl _) (by omega)) h_o hbu) i hi) (fun i h1 h2 => by rw [f_28, up_other (by omega)]; exact hc2 i (by omega) h2) (by rw [f_29, huv]; exact gBB_y hbu) (by omega) _ _ _ V (lv_sub hl [0, 1, 2, 3, 4, 5, 6] rfl)
                · have V : gW D T A s [(a0, .inr (5, [.int (nI an), .int am, .int al, .int ao, .int uv, .ref a1, .ref a2, .ref a3, .ref a4, .ref a5, .ref a6, .ref a7, .ref a8, .ref a9, .ref a10])), (a1, .inl (T 0, 10, .inl af1)), (a2, .inl (T 0, 10, .inl af2)), (a3, .inl (T 0, 10, .inl (upd gb k80 z_22))), (a4, .inl (T 0, 10, .inl af4)), (a5, .inl (T 0, 10, .inl af5)), (a6, .inl (T 0, 10, .inl af6)), (a7, .inl (T 0, 10, .inl gc)), (a8, .inl (T 0, 10, .inl gd)), (a9, .inl (T 0, 10, .inl af9)), (a10, .inl (T 0, 10, .inl g10_3))] H locs := V _ [0, 2, 1, 0, 0, 0] rfl rfl rfl (by decide +kernel) rfl
                  show W p l e _ s m args below meth c H locs _ _ _ (F0 m 120 ls [])
                  have hnb := cb_n (sk := sk) h_a (by omega) (hc2 k80 (Nat.le_refl _) (by omega)) (h_s6 _ (by omega)) (h_s5 _ (by omega)) (up_same.trans hz80) f_30
                  refine lv_iinc (v := (nI (k80 + 1))) (lv' := [(6, .int (nI (k80 + 1))), (5, .int x5), (0, .ref a0), (1, .int pl), (2, .int sk), (3, .int sf), (4, .int sb)]) hx hb dX5_pass_120 hl (k := 0) rfl (nI_1 _) (by decide) rfl (fun ls hl => ?_)
                  refine lv_goto (tgt := 80) hx hb dX5_pass_123 (by decide) ?_
                  exact ih_80 (k80 + 1) uv (upd gb k80 z_22) gc gd (by omega) (up_one (p := fun i x => x = hNw an fa pl sf sb i) hb1 hz80) (fun i h1 h2 => (up_other (by omega)).trans (hb2 i (by omega) h2)) (one_more hc1 (s2_n (hc2 k80 (Nat.le_refl _) (by omega)) hnb)) (fun i h1 h2 => hc2 i (by omega) h2) (by rw [huv]; exact congrArg _ (gBB_n hnb)) (by omega) _ _ _ V (lv_sub hl [0, 1, 2, 3, 4, 5, 6] rfl)
          exact L_20 _ 0 au af3 ga af8 (by omega) (fun i h => absurd h (Nat.not_lt_zero _)) (fun i _ h => h_s3 i h) (fun i h => absurd h (Nat.not_lt_zero _)) (fun i _ h => hB i (by omega)) (add_n0 _) (Nat.lt_succ_self _) _ _ _ V (lv_sub hl [0, 1, 2, 3, 4, 5, 6] rfl)
      · skip
        have c_2 := b_nle (by omega) (by omega) c_2
        have hU : ∀ q, k6 ≤ q → ga k6 = fa (64 + k6) := fun q _ => hUU k6 (Nat.le_refl _) (by omega)
        refine lv_iload_n hx hb dX5_pass_15 rfl (lv_at hl 4 rfl) ?_
        refine lv_iload hx hb dX5_pass_16 (lv_at hl 0 rfl) ?_
        refine g_callSNU (nA := 2) (host := RX7) hC V hl.1 (c_isIn_f l D T sk k6) w_472 (List.mem_of_getElem? (i := 13) rfl) w_2 w_471 (by decide +kernel) rfl ⟨(Nat.le_of_ble_eq_true rfl), (Nat.le_of_ble_eq_true rfl)⟩ [] rfl rfl (Nat.le_of_ble_eq_true rfl) dX5_pass_18 ⟨(Nat.le_of_ble_eq_true rfl), (Nat.le_of_ble_eq_true rfl)⟩ rfl (fun r w1 H locs hQ V => ?_)
        rcases hQ with ⟨rfl, rfl, f_31⟩ | ⟨rfl, rfl, f_32⟩
        · have V : gW D T A s [(a0, .inr (5, [.int (nI an), .int am, .int al, .int ao, .int au, .ref a1, .ref a2, .ref a3, .ref a4, .ref a5, .ref a6, .ref a7, .ref a8, .ref a9, .ref a10])), (a1, .inl (T 0, 10, .inl af1)), (a2, .inl (T 0, 10, .inl af2)), (a3, .inl (T 0, 10, .inl af3)), (a4, .inl (T 0, 10, .inl af4)), (a5, .inl (T 0, 10, .inl af5)), (a6, .inl (T 0, 10, .inl af6)), (a7, .inl (T 0, 10, .inl ga)), (a8, .inl (T 0, 10, .inl af8)), (a9, .inl (T 0, 10, .inl af9)), (a10, .inl (T 0, 10, .inl af10))] H locs := V _ [] rfl rfl rfl (by decide +kernel) rfl
          show W p l e _ s m args below meth c H locs _ _ _ (F0 m 21 ls [.int (nI 1)])
          refine lv_if_eq (tgt := 47) hx hb dX5_pass_21 (by decide) (fun c => absurd (show (nI 1) = 0 from c) (by decide +kernel)) (fun _ => ?_)
          refine lv_aload_n hx hb dX5_pass_24 rfl (lv_at hl 2 rfl) ?_
          refine lv_iload hx hb dX5_pass_25 (lv_at hl 0 rfl) ?_
          refine g_callVU (nA := 1) hC V hl.1 (s_canStrike l D T a0 k6 an am al ao au a1 a2 a3 a4 a5 a6 a7 a8 a9 a10 af3 af4 af5 af6 ga (by first | assumption | omega)) w_473 w_474 w_475 w_3 w_476 (by decide +kernel) rfl ⟨(Nat.le_of_ble_eq_true rfl), (Nat.le_of_ble_eq_true rfl)⟩ 0 (ci := 5) rfl rfl [0, 3, 4, 5, 6, 7] rfl rfl (Nat.le_of_ble_eq_true rfl) dX5_pass_27 ⟨(Nat.le_of_ble_eq_true rfl), (Nat.le_of_ble_eq_true rfl)⟩ rfl (fun r w1 H locs hQ V => ?_)
          rcases hQ with ⟨rfl, rfl, f_33, f_34, f_35⟩ | ⟨rfl, rfl, f_36⟩
          · have V : gW D T A s [(a0, .inr (5, [.int (nI an), .int am, .int al, .int ao, .int au, .ref a1, .ref a2, .ref a3, .ref a4, .ref a5, .ref a6, .ref a7, .ref a8, .ref a9, .ref a10])), (a1, .inl (T 0, 10, .inl af1)), (a2, .inl (T 0, 10, .inl af2)), (a3, .inl (T 0, 10, .inl af3)), (a4, .inl (T 0, 10, .inl af4)), (a5, .inl (T 0, 10, .inl af5)), (a6, .inl (T 0, 10, .inl af6)), (a7, .inl (T 0, 10, .inl ga)), (a8, .inl (T 0, 10, .inl af8)), (a9, .inl (T 0, 10, .inl af9)), (a10, .inl (T 0, 10, .inl af10))] H locs := V _ [0, 2, 0, 0, 0, 0] rfl rfl rfl (by decide +kernel) rfl
            show W p l e _ s m args below meth c H locs _ _ _ (F0 m 30 ls [.int (nI 1)])
            have hsp : strP fa sk k6 := sC_y (hU k6 (Nat.le_refl _)) (h_s6 _ (by omega)) (h_s3 _ (by omega)) (h_s4 _ (by omega)) (h_s5 _ (by omega)) f_31 f_33 f_34 f_35
            refine lv_if_eq (tgt := 47) hx hb dX5_pass_30 (by decide) (fun c => absurd (show (nI 1) = 0 from c) (by decide +kernel)) (fun _ => ?_)
            refine lv_aload_n hx hb dX5_pass_33 rfl (lv_at hl 2 rfl) ?_
            refine g_get hC V (ci := 5) uwX5 0 rfl rfl 11 (by decide) w_77 rfl rfl dX5_pass_34 ?_
            refine lv_iload hx hb dX5_pass_37 (lv_at hl 0 rfl) ?_
            refine lv_dup2_11 hx hb dX5_pass_39 rfl rfl ?_
            refine g_iald hC V 7 rfl (vp_in_nI (by omega) (by omega)) (v := (ga k6)) (congrArg _ (nI_clamp (by omega))) dX5_pass_40 ?_
            refine lv_iconst (v := (nI 1)) hx hb dX5_pass_41 (by decide +kernel) ?_
            refine lv_iadd hx hb dX5_pass_42 ?_
            refine g_iast hC V 7 rfl (vp_in_nI (by omega) (by omega)) (f' := (upd ga k6 ((ga k6) + (nI 1)))) (by rw [nI_clamp (by omega)]) (ws' := [(a0, .inr (5, [.int (nI an), .int am, .int al, .int ao, .int au, .ref a1, .ref a2, .ref a3, .ref a4, .ref a5, .ref a6, .ref a7, .ref a8, .ref a9, .ref a10])), (a1, .inl (T 0, 10, .inl af1)), (a2, .inl (T 0, 10, .inl af2)), (a3, .inl (T 0, 10, .inl af3)), (a4, .inl (T 0, 10, .inl af4)), (a5, .inl (T 0, 10, .inl af5)), (a6, .inl (T 0, 10, .inl af6)), (a7, .inl (T 0, 10, .inl (upd ga k6 ((ga k6) + (nI 1))))), (a8, .inl (T 0, 10, .inl af8)), (a9, .inl (T 0, 10, .inl af9)), (a10, .inl (T 0, 10, .inl af10))]) rfl dX5_pass_43 (fun H locs V => ?_)
            refine lv_iinc (v := (x5 + 1)) (lv' := [(5, .int (x5 + 1)), (6, .int (nI k6)), (0, .ref a0), (1, .int pl), (2, .int sk), (3, .int sf), (4, .int sb)]) hx hb dX5_pass_44 hl (k := 1) rfl rfl (by decide) rfl (fun ls hl => ?_)
            refine lv_iinc (v := (nI (k6 + 1))) (lv' := [(6, .int (nI (k6 + 1))), (5, .int (x5 + 1)), (0, .ref a0), (1, .int pl), (2, .int sk), (3, .int sf), (4, .int sb)]) hx hb dX5_pass_47 hl (k := 1) rfl (nI_1 _) (by decide) rfl (fun ls hl => ?_)
            refine lv_goto (tgt := 6) hx hb dX5_pass_50 (by decide) ?_
            exact ih_6 (k6 + 1) (x5 + 1) (upd ga k6 ((ga k6) + (nI 1))) (by omega) (c7_y (g0 := af7) hB (hU k6 (Nat.le_refl _)) hsp) (fun i h1 h2 => (up_other (by omega)).trans (hUU i (by omega) h2)) (by rw [hCn]; exact gC_y hsp) (by omega) _ _ _ V (lv_sub hl [0, 1, 2, 3, 4, 5, 6] rfl)
          · have V : gW D T A s [(a0, .inr (5, [.int (nI an), .int am, .int al, .int ao, .int au, .ref a1, .ref a2, .ref a3, .ref a4, .ref a5, .ref a6, .ref a7, .ref a8, .ref a9, .ref a10])), (a1, .inl (T 0, 10, .inl af1)), (a2, .inl (T 0, 10, .inl af2)), (a3, .inl (T 0, 10, .inl af3)), (a4, .inl (T 0, 10, .inl af4)), (a5, .inl (T 0, 10, .inl af5)), (a6, .inl (T 0, 10, .inl af6)), (a7, .inl (T 0, 10, .inl ga)), (a8, .inl (T 0, 10, .inl af8)), (a9, .inl (T 0, 10, .inl af9)), (a10, .inl (T 0, 10, .inl af10))] H locs := V _ [0, 2, 0, 0, 0, 0] rfl rfl rfl (by decide +kernel) rfl
            show W p l e _ s m args below meth c H locs _ _ _ (F0 m 30 ls [.int (nI 0)])
            have hsp : ¬ strP fa sk k6 := sC_n (hU k6 (Nat.le_refl _)) (h_s6 _ (by omega)) (h_s3 _ (by omega)) (h_s4 _ (by omega)) (h_s5 _ (by omega)) f_36
            refine lv_if_eq (tgt := 47) hx hb dX5_pass_30 (by decide) (fun _ => ?_) (fun c => absurd (show (nI 0) = 0 by decide +kernel) c)
            refine lv_iinc (v := (nI (k6 + 1))) (lv' := [(6, .int (nI (k6 + 1))), (5, .int x5), (0, .ref a0), (1, .int pl), (2, .int sk), (3, .int sf), (4, .int sb)]) hx hb dX5_pass_47 hl (k := 0) rfl (nI_1 _) (by decide) rfl (fun ls hl => ?_)
            refine lv_goto (tgt := 6) hx hb dX5_pass_50 (by decide) ?_
            exact ih_6 (k6 + 1) x5 ga (by omega) (c7_n hB (hU k6 (Nat.le_refl _)) hsp) (fun i h1 h2 => hUU i (by omega) h2) (by rw [hCn]; exact gC_n hsp) (by omega) _ _ _ V (lv_sub hl [0, 1, 2, 3, 4, 5, 6] rfl)
        · have V : gW D T A s [(a0, .inr (5, [.int (nI an), .int am, .int al, .int ao, .int au, .ref a1, .ref a2, .ref a3, .ref a4, .ref a5, .ref a6, .ref a7, .ref a8, .ref a9, .ref a10])), (a1, .inl (T 0, 10, .inl af1)), (a2, .inl (T 0, 10, .inl af2)), (a3, .inl (T 0, 10, .inl af3)), (a4, .inl (T 0, 10, .inl af4)), (a5, .inl (T 0, 10, .inl af5)), (a6, .inl (T 0, 10, .inl af6)), (a7, .inl (T 0, 10, .inl ga)), (a8, .inl (T 0, 10, .inl af8)), (a9, .inl (T 0, 10, .inl af9)), (a10, .inl (T 0, 10, .inl af10))] H locs := V _ [] rfl rfl rfl (by decide +kernel) rfl
          show W p l e _ s m args below meth c H locs _ _ _ (F0 m 21 ls [.int (nI 0)])
          have hsp : ¬ strP fa sk k6 := fun q => f_32 q.1
          refine lv_if_eq (tgt := 47) hx hb dX5_pass_21 (by decide) (fun _ => ?_) (fun c => absurd (show (nI 0) = 0 by decide +kernel) c)
          refine lv_iinc (v := (nI (k6 + 1))) (lv' := [(6, .int (nI (k6 + 1))), (5, .int x5), (0, .ref a0), (1, .int pl), (2, .int sk), (3, .int sf), (4, .int sb)]) hx hb dX5_pass_47 hl (k := 0) rfl (nI_1 _) (by decide) rfl (fun ls hl => ?_)
          refine lv_goto (tgt := 6) hx hb dX5_pass_50 (by decide) ?_
          exact ih_6 (k6 + 1) x5 ga (by omega) (c7_n hB (hU k6 (Nat.le_refl _)) hsp) (fun i h1 h2 => hUU i (by omega) h2) (by rw [hCn]; exact gC_n hsp) (by omega) _ _ _ V (lv_sub hl [0, 1, 2, 3, 4, 5, 6] rfl)
  exact L_1 _ 0 (nI 0) af7 (by omega) (fun i h => absurd h (Nat.not_lt_zero _)) (fun i _ h => h_s7 i h) rfl (Nat.lt_succ_self _) _ _ _ V (lv_sub hl [0, 1, 2, 3, 4, 5, 6] rfl)

/-! what calls do to THE STREET, over the reference's numbers -/
abbrev smP (n : Nat) (i : Int32) : Prop := ¬ (i < 0 ∨ nI n ≤ i)
theorem smP_of {n j : Nat} {i : Int32} (e : i = nI j) (hj : j < n) (hn : n ≤ 10) : smP n i := by
  subst e
  rintro (h | h)
  · exact absurd h (nI_pos (by omega))
  · have := b_le (by omega) (by omega) h; omega
def ropeA (n : Nat) (f : Nat → Int32) (i to : Int32) : Int32 := if smP n i ∧ smP n to then f (84 + i.toNatClampNeg) else -2
def ropeF (n : Nat) (f : Nat → Int32) (i to : Int32) : Nat → Int32 := if smP n i ∧ smP n to then upd f (84 + i.toNatClampNeg) to else f
theorem rp_1 {n : Nat} {f : Nat → Int32} {i to : Int32} (h : i < 0 ∨ nI n ≤ i) : -2 = ropeA n f i to ∧ f = ropeF n f i to := by
  unfold ropeA ropeF; rw [if_neg (fun q => q.1 h), if_neg (fun q => q.1 h)]; exact ⟨rfl, rfl⟩
theorem rp_2 {n : Nat} {f : Nat → Int32} {i to : Int32} (h : to < 0 ∨ nI n ≤ to) : -2 = ropeA n f i to ∧ f = ropeF n f i to := by
  unfold ropeA ropeF; rw [if_neg (fun q => q.2 h), if_neg (fun q => q.2 h)]; exact ⟨rfl, rfl⟩
theorem rp_y {n j k : Nat} {f : Nat → Int32} {i to : Int32} (hn : n ≤ 10) (ei : i = nI j) (hj : j < n) (et : to = nI k) (hk : k < n) : f (84 + j) = ropeA n f i to ∧ upd f (84 + j) (nI k) = ropeF n f i to := by
  unfold ropeA ropeF
  rw [if_pos ⟨smP_of ei hj hn, smP_of et hk hn⟩, if_pos ⟨smP_of ei hj hn, smP_of et hk hn⟩, ei, et, nI_clamp (by omega)]
  exact ⟨rfl, rfl⟩
def armA (n : Nat) (f : Nat → Int32) (i b : Int32) : Int32 := if smP n i then (if b < nI 0 ∨ nI 60 < b then -3 else f (4 + i.toNatClampNeg)) else -2
def armF (n : Nat) (f : Nat → Int32) (i b : Int32) : Nat → Int32 := if smP n i ∧ ¬ (b < nI 0 ∨ nI 60 < b) then upd f (4 + i.toNatClampNeg) b else f
theorem ar_1 {n : Nat} {f : Nat → Int32} {i b : Int32} (h : i < 0 ∨ nI n ≤ i) : -2 = armA n f i b ∧ f = armF n f i b := by
  unfold armA armF; rw [if_neg (fun q => q h), if_neg (fun q => q.1 h)]; exact ⟨rfl, rfl⟩
theorem ar_2 {n j : Nat} {f : Nat → Int32} {i b : Int32} (hn : n ≤ 10) (ei : i = nI j) (hj : j < n) (h : b < nI 0 ∨ nI 60 < b) : -3 = armA n f i b ∧ f = armF n f i b := by
  unfold armA armF; rw [if_pos (smP_of ei hj hn), if_pos h, if_neg (fun q => q.2 h)]; exact ⟨rfl, rfl⟩
theorem ar_y {n j : Nat} {f : Nat → Int32} {i b : Int32} (hn : n ≤ 10) (ei : i = nI j) (hj : j < n) (h1 : ¬ b < nI 0) (h2 : ¬ nI 60 < b) : f (4 + j) = armA n f i b ∧ upd f (4 + j) b = armF n f i b := by
  have h : ¬ (b < nI 0 ∨ nI 60 < b) := fun q => q.elim h1 h2
  unfold armA armF; rw [if_pos (smP_of ei hj hn), if_neg h, if_pos ⟨smP_of ei hj hn, h⟩, ei, nI_clamp (by omega)]; exact ⟨rfl, rfl⟩
def pieA (n : Nat) (f : Nat → Int32) (i b : Int32) : Int32 := if smP n i then (if b < nI 0 ∨ nI 20 < b then -3 else f (64 + i.toNatClampNeg)) else -2
def pieF (n : Nat) (f : Nat → Int32) (i b : Int32) : Nat → Int32 := if smP n i ∧ ¬ (b < nI 0 ∨ nI 20 < b) then upd (upd f (54 + i.toNatClampNeg) b) (64 + i.toNatClampNeg) (nI 0) else f
theorem pi_1 {n : Nat} {f : Nat → Int32} {i b : Int32} (h : i < 0 ∨ nI n ≤ i) : -2 = pieA n f i b ∧ f = pieF n f i b := by
  unfold pieA pieF; rw [if_neg (fun q => q h), if_neg (fun q => q.1 h)]; exact ⟨rfl, rfl⟩
theorem pi_2 {n j : Nat} {f : Nat → Int32} {i b : Int32} (hn : n ≤ 10) (ei : i = nI j) (hj : j < n) (h : b < nI 0 ∨ nI 20 < b) : -3 = pieA n f i b ∧ f = pieF n f i b := by
  unfold pieA pieF; rw [if_pos (smP_of ei hj hn), if_pos h, if_neg (fun q => q.2 h)]; exact ⟨rfl, rfl⟩
theorem pi_y {n j : Nat} {f : Nat → Int32} {i b : Int32} (hn : n ≤ 10) (ei : i = nI j) (hj : j < n) (h1 : ¬ b < nI 0) (h2 : ¬ nI 20 < b) : f (64 + j) = pieA n f i b ∧ upd (upd f (54 + j) b) (64 + j) (nI 0) = pieF n f i b := by
  have h : ¬ (b < nI 0 ∨ nI 20 < b) := fun q => q.elim h1 h2
  unfold pieA pieF; rw [if_pos (smP_of ei hj hn), if_neg h, if_pos ⟨smP_of ei hj hn, h⟩, ei, nI_clamp (by omega)]; exact ⟨rfl, rfl⟩
/-- one number of a SMITH is another -/
theorem SR_9 {n j : Nat} {m l o x : Int32} {f1 f2 f3 f4 f5 f6 f7 f9 fa : Nat → Int32} (hn : n ≤ 10) (h : SR n m l o f1 f2 f3 f4 f5 f6 f7 f9 fa) (hj : j < n) : SR n m l o f1 f2 f3 f4 f5 f6 f7 (upd f9 j x) (upd fa (84 + j) x) := by
  obtain ⟨a0, a1, a2, a3, a4⟩ := h
  refine ⟨by rw [up_other (by omega)]; exact a0, by rw [up_other (by omega)]; exact a1, by rw [up_other (by omega)]; exact a2, by rw [up_other (by omega)]; exact a3, fun i hi => ?_⟩
  obtain ⟨q1, q2, q3, q4, q5, q6, q7, q9⟩ := a4 i hi
  rw [up_other (by omega), up_other (by omega), up_other (by omega), up_other (by omega), up_other (by omega), up_other (by omega), up_other (by omega)]
  refine ⟨q1, q2, q3, q4, q5, q6, q7, ?_⟩
  by_cases c : i = j
  · subst c; rw [up_same, up_same]
  · rw [up_other c, up_other (by omega)]; exact q9
theorem SR_1 {n j : Nat} {m l o x : Int32} {f1 f2 f3 f4 f5 f6 f7 f9 fa : Nat → Int32} (hn : n ≤ 10) (h : SR n m l o f1 f2 f3 f4 f5 f6 f7 f9 fa) (hj : j < n) : SR n m l o (upd f1 j x) f2 f3 f4 f5 f6 f7 f9 (upd fa (4 + j) x) := by
  obtain ⟨a0, a1, a2, a3, a4⟩ := h
  refine ⟨by rw [up_other (by omega)]; exact a0, by rw [up_other (by omega)]; exact a1, by rw [up_other (by omega)]; exact a2, by rw [up_other (by omega)]; exact a3, fun i hi => ?_⟩
  obtain ⟨q1, q2, q3, q4, q5, q6, q7, q9⟩ := a4 i hi
  refine ⟨?_, by rw [up_other (by omega)]; exact q2, by rw [up_other (by omega)]; exact q3, by rw [up_other (by omega)]; exact q4, by rw [up_other (by omega)]; exact q5, by rw [up_other (by omega)]; exact q6, by rw [up_other (by omega)]; exact q7, by rw [up_other (by omega)]; exact q9⟩
  by_cases c : i = j
  · subst c; rw [up_same, up_same]
  · rw [up_other c, up_other (by omega)]; exact q1
theorem SR_67 {n j : Nat} {m l o x y : Int32} {f1 f2 f3 f4 f5 f6 f7 f9 fa : Nat → Int32} (hn : n ≤ 10) (h : SR n m l o f1 f2 f3 f4 f5 f6 f7 f9 fa) (hj : j < n) : SR n m l o f1 f2 f3 f4 f5 (upd f6 j x) (upd f7 j y) f9 (upd (upd fa (54 + j) x) (64 + j) y) := by
  obtain ⟨a0, a1, a2, a3, a4⟩ := h
  have eo : ∀ q, q ≠ 54 + j → q ≠ 64 + j → upd (upd fa (54 + j) x) (64 + j) y q = fa q := fun q h1 h2 => by rw [up_other h2, up_other h1]
  refine ⟨(eo _ (by omega) (by omega)).trans a0, (eo _ (by omega) (by omega)).trans a1, (eo _ (by omega) (by omega)).trans a2, (eo _ (by omega) (by omega)).trans a3, fun i hi => ?_⟩
  obtain ⟨q1, q2, q3, q4, q5, q6, q7, q9⟩ := a4 i hi
  refine ⟨q1.trans (eo _ (by omega) (by omega)).symm, q2.trans (eo _ (by omega) (by omega)).symm, q3.trans (eo _ (by omega) (by omega)).symm, q4.trans (eo _ (by omega) (by omega)).symm, q5.trans (eo _ (by omega) (by omega)).symm, ?_, ?_, q9.trans (eo _ (by omega) (by omega)).symm⟩
  · by_cases c : i = j
    · subst c; rw [up_same, up_other (by omega), up_same]
    · rw [up_other c, eo _ (by omega) (by omega)]; exact q6
  · by_cases c : i = j
    · subst c; rw [up_same, up_same]
    · rw [up_other c, eo _ (by omega) (by omega)]; exact q7
theorem ism_o {n : Nat} {i : Int32} (hn : n ≤ 10) (h : i < nI 0 ∨ nI n - nI 1 < i) : i < 0 ∨ nI n ≤ i := by
  have H : ∀ n : Fin 11, (nI n.1 - nI 1).toInt = (n.1 : Int) - 1 := by decide +kernel
  have e := H ⟨n, by omega⟩
  rcases h with h | h
  · exact Or.inl h
  · refine Or.inr ?_
    rw [Int32.lt_iff_toInt_lt] at h
    rw [Int32.le_iff_toInt_le, nI_toInt (by omega)]
    have e' : (nI n - nI 1).toInt = (n : Int) - 1 := e
    omega
/-- a set of SMITHS -/
abbrev setP (n : Nat) (v : Int32) : Prop := ¬ (v < 0 ∨ nI (2 ^ n - 1) < v)
theorem set_c {n : Nat} {v : Int32} (hn : n ≤ 10) : (v &&& (nI (2 ^ n - 1) ^^^ -1)) = 0 ↔ setP n v := by
  have hm : ∀ (n : Fin 11) (i : Fin 32), ((nI (2 ^ n.1 - 1) ^^^ -1 : Int32).toBitVec).getLsbD i.1 = decide (n.1 ≤ i.1) := by decide +kernel
  have hp := pw10 hn
  have hz : (0 : Int32).toInt = 0 := by decide +kernel
  have key : (v &&& (nI (2 ^ n - 1) ^^^ -1)) = 0 ↔ v.toBitVec.toNat < 2 ^ n := by
    constructor
    · intro h
      apply Nat.lt_pow_two_of_testBit
      intro i hi
      by_cases c : i < 32
      · have e := congrArg (fun q : Int32 => q.toBitVec.getLsbD i) h
        have e1 : (v.toBitVec &&& (nI (2 ^ n - 1) ^^^ -1 : Int32).toBitVec).getLsbD i = (0 : Int32).toBitVec.getLsbD i := e
        rw [BitVec.getLsbD_and, hm ⟨n, by omega⟩ ⟨i, c⟩] at e1
        have e2 : (0 : Int32).toBitVec.getLsbD i = false := by
          have H : ∀ i : Fin 32, (0 : Int32).toBitVec.getLsbD i.1 = false := by decide +kernel
          exact H ⟨i, c⟩
        have e3 : decide (n ≤ i) = true := decide_eq_true hi
        rw [e2, e3, Bool.and_true] at e1
        exact e1
      · exact Nat.testBit_lt_two_pow (Nat.lt_of_lt_of_le v.toBitVec.isLt (Nat.pow_le_pow_right (by decide) (by omega)))
    · intro h
      apply Int32.toBitVec_inj.mp
      apply BitVec.eq_of_getLsbD_eq
      intro i hi
      show (v.toBitVec &&& (nI (2 ^ n - 1) ^^^ -1 : Int32).toBitVec).getLsbD i = (0 : Int32).toBitVec.getLsbD i
      have e2 : (0 : Int32).toBitVec.getLsbD i = false := by
        have H : ∀ i : Fin 32, (0 : Int32).toBitVec.getLsbD i.1 = false := by decide +kernel
        exact H ⟨i, hi⟩
      rw [BitVec.getLsbD_and, hm ⟨n, by omega⟩ ⟨i, hi⟩, e2]
      by_cases c : n ≤ i
      · have : v.toBitVec.getLsbD i = false := Nat.testBit_lt_two_pow (Nat.lt_of_lt_of_le h (Nat.pow_le_pow_right (by decide) c))
        rw [this, Bool.false_and]
      · have e3 : decide (n ≤ i) = false := decide_eq_false c
        show (v.toBitVec.getLsbD i && decide (n ≤ i)) = false
        rw [e3, Bool.and_false]
  rw [key]
  constructor
  · intro h
    have e : v = nI v.toBitVec.toNat := by
      apply Int32.toBitVec_inj.mp
      apply BitVec.eq_of_toNat_eq
      show _ = (BitVec.ofNat 32 v.toBitVec.toNat).toNat
      simp
    rw [e]
    rintro (q | q)
    · exact absurd q (nI_pos (by omega))
    · have := b_lt (by omega) (by omega) q; omega
  · intro h
    obtain ⟨j, h1, h2, e⟩ := g_rng (x := v) (a := 0) (b := 2 ^ n - 1) (by decide) (by omega) (fun q => h (Or.inl q)) (fun q => h (Or.inr q))
    rw [e]
    show (BitVec.ofNat 32 j).toNat < 2 ^ n
    rw [BitVec.toNat_ofNat, Nat.mod_eq_of_lt (by omega)]
    omega
theorem set_m1 {n : Nat} (hn : n ≤ 10) : (nI 1).toInt64 <<< ((nI n).toInt64 &&& 63) - (nI 1).toInt64 = (nI (2 ^ n - 1)).toInt64 := by
  have H : ∀ n : Fin 11, (nI 1).toInt64 <<< ((nI n.1).toInt64 &&& 63) - (nI 1).toInt64 = (nI (2 ^ n.1 - 1)).toInt64 := by decide +kernel
  exact H ⟨n, by omega⟩

def q_x_rope_f (T : Nat → ClassId) (nf1 : Nat → Int32) (nf2 : Nat → Int32) (nf3 : Nat → Int32) (nf4 : Nat → Int32) (nf5 : Nat → Int32) (nf6 : Nat → Int32) (nf7 : Nat → Int32) (fa : Nat → Int32) (o : Nat) (i : Int32) (to : Int32) (n0 : Nat) (s0 : Nat) (im : Nat) (iz : Nat) (rw : Nat) (t0 : Nat) (u0 : Nat) (h0 : Nat) (y0 : Nat) (sv : Value) (nn : Nat) (nm : Int32) (nl : Int32) (no : Int32) (nu : Int32) (n1 : Nat) (n2 : Nat) (n3 : Nat) (n4 : Nat) (n5 : Nat) (n6 : Nat) (n7 : Nat) (n8 : Nat) (n9 : Nat) (n10 : Nat) (nf9 : Nat → Int32) : Option Value → va_W → Prop := fun rr ww => (∃ (z : Int32) (g9 : Nat → Int32), rr = some (.int z) ∧ ww = [(o, .inr (7, [.ref n0, .ref s0, .ref im, .ref iz, .ref rw, .ref t0, .ref u0, .ref h0, .ref y0, sv])), (n0, .inr (5, [.int (nI nn), .int nm, .int nl, .int no, .int nu, .ref n1, .ref n2, .ref n3, .ref n4, .ref n5, .ref n6, .ref n7, .ref n8, .ref n9, .ref n10])), (n9, .inl (T 0, 10, .inl g9))] ∧ (∀ i, i < nn → bd (g9 i) nn) ∧ z = ropeA nn fa i to ∧ SR nn nm nl no nf1 nf2 nf3 nf4 nf5 nf6 nf7 g9 (ropeF nn fa i to))
set_option maxHeartbeats 4000000 in
set_option maxRecDepth 100000 in
theorem x_rope_f (l : Launch) (D : va_G) (T : Nat → ClassId) (nf1 : Nat → Int32) (nf2 : Nat → Int32) (nf3 : Nat → Int32) (nf4 : Nat → Int32) (nf5 : Nat → Int32) (nf6 : Nat → Int32) (nf7 : Nat → Int32) (fa : Nat → Int32) (o : Nat) (i : Int32) (to : Int32) (n0 : Nat) (s0 : Nat) (im : Nat) (iz : Nat) (rw : Nat) (t0 : Nat) (u0 : Nat) (h0 : Nat) (y0 : Nat) (sv : Value) (nn : Nat) (nm : Int32) (nl : Int32) (no : Int32) (nu : Int32) (n1 : Nat) (n2 : Nat) (n3 : Nat) (n4 : Nat) (n5 : Nat) (n6 : Nat) (n7 : Nat) (n8 : Nat) (n9 : Nat) (n10 : Nat) (nf9 : Nat → Int32) (h_n : nn ≤ 10) (h_t : ∀ i, i < nn → bd (nf9 i) nn) (h_sr : SR nn nm nl no nf1 nf2 nf3 nf4 nf5 nf6 nf7 nf9 fa) : Ct l yX7_rope cX7_rope 4 (some .int) 1 0 0 D T [.ref o, .int i, .int to] [(o, .inr (7, [.ref n0, .ref s0, .ref im, .ref iz, .ref rw, .ref t0, .ref u0, .ref h0, .ref y0, sv])), (n0, .inr (5, [.int (nI nn), .int nm, .int nl, .int no, .int nu, .ref n1, .ref n2, .ref n3, .ref n4, .ref n5, .ref n6, .ref n7, .ref n8, .ref n9, .ref n10])), (n9, .inl (T 0, 10, .inl nf9))] (q_x_rope_f T nf1 nf2 nf3 nf4 nf5 nf6 nf7 fa o i to n0 s0 im iz rw t0 u0 h0 y0 sv nn nm nl no nu n1 n2 n3 n4 n5 n6 n7 n8 n9 n10 nf9) := by
  refine Ct.of (cc := cX7_rope) (maxL := 4) (ret := (some .int)) (by decide) (Nat.le_of_ble_eq_true rfl) ?_
  intro p e s m args below meth c A ls hC hnm V hl
  obtain ⟨hx, hb, hr, hml, hown, hts, hlocks⟩ := id hC
  generalize hH : s.heap = H at V ⊢
  clear hH
  have hl : lv_has ls 4 [(0, .ref o), (1, .int i), (2, .int to)] := hl
  generalize hlo : ([] : List Loc) = locs at V ⊢
  clear hlo
  refine lv_aload_n hx hb dX7_rope_0 rfl (lv_at hl 0 rfl) ?_
  refine g_get hC V (ci := 7) uwX7 0 rfl rfl 0 (by decide) w_249 rfl rfl dX7_rope_1 ?_
  refine lv_iload_n hx hb dX7_rope_4 rfl (lv_at hl 1 rfl) ?_
  refine g_callVU (nA := 1) hC V hl.1 (s_isSmith l D T n0 i nn nm nl no nu n1 n2 n3 n4 n5 n6 n7 n8 n9 n10 (by first | assumption | omega)) w_425 w_426 w_427 w_3 w_428 (by decide +kernel) rfl ⟨(Nat.le_of_ble_eq_true rfl), (Nat.le_of_ble_eq_true rfl)⟩ 1 (ci := 5) rfl rfl [1] rfl rfl (Nat.le_of_ble_eq_true rfl) dX7_rope_5 ⟨(Nat.le_of_ble_eq_true rfl), (Nat.le_of_ble_eq_true rfl)⟩ rfl (fun r w1 H locs hQ V => ?_)
  rcases hQ with ⟨j_1, rfl, rfl, f_2, f_3⟩ | ⟨rfl, rfl, f_4⟩
  · have V : gW D T A s [(o, .inr (7, [.ref n0, .ref s0, .ref im, .ref iz, .ref rw, .ref t0, .ref u0, .ref h0, .ref y0, sv])), (n0, .inr (5, [.int (nI nn), .int nm, .int nl, .int no, .int nu, .ref n1, .ref n2, .ref n3, .ref n4, .ref n5, .ref n6, .ref n7, .ref n8, .ref n9, .ref n10])), (n9, .inl (T 0, 10, .inl nf9))] H locs := V _ [1] rfl rfl rfl (by decide +kernel) rfl
    show W p l e _ s m args below meth c H locs _ _ _ (F0 m 8 ls [.int (nI 1)])
    rw [f_2] at hl
    refine lv_if_eq (tgt := 22) hx hb dX7_rope_8 (by decide) (fun c => absurd (show (nI 1) = 0 from c) (by decide +kernel)) (fun _ => ?_)
    refine lv_aload_n hx hb dX7_rope_11 rfl (lv_at hl 0 rfl) ?_
    refine g_get hC V (ci := 7) uwX7 0 rfl rfl 0 (by decide) w_249 rfl rfl dX7_rope_12 ?_
    refine lv_iload_n hx hb dX7_rope_15 rfl (lv_at hl 2 rfl) ?_
    refine g_callVU (nA := 1) hC V hl.1 (s_isSmith l D T n0 to nn nm nl no nu n1 n2 n3 n4 n5 n6 n7 n8 n9 n10 (by first | assumption | omega)) w_425 w_426 w_427 w_3 w_428 (by decide +kernel) rfl ⟨(Nat.le_of_ble_eq_true rfl), (Nat.le_of_ble_eq_true rfl)⟩ 1 (ci := 5) rfl rfl [1] rfl rfl (Nat.le_of_ble_eq_true rfl) dX7_rope_16 ⟨(Nat.le_of_ble_eq_true rfl), (Nat.le_of_ble_eq_true rfl)⟩ rfl (fun r w1 H locs hQ V => ?_)
    rcases hQ with ⟨j_5, rfl, rfl, f_6, f_7⟩ | ⟨rfl, rfl, f_8⟩
    · have V : gW D T A s [(o, .inr (7, [.ref n0, .ref s0, .ref im, .ref iz, .ref rw, .ref t0, .ref u0, .ref h0, .ref y0, sv])), (n0, .inr (5, [.int (nI nn), .int nm, .int nl, .int no, .int nu, .ref n1, .ref n2, .ref n3, .ref n4, .ref n5, .ref n6, .ref n7, .ref n8, .ref n9, .ref n10])), (n9, .inl (T 0, 10, .inl nf9))] H locs := V _ [1] rfl rfl rfl (by decide +kernel) rfl
      show W p l e _ s m args below meth c H locs _ _ _ (F0 m 19 ls [.int (nI 1)])
      rw [f_6] at hl
      refine lv_if_ne (tgt := 25) hx hb dX7_rope_19 (by decide) (fun _ => ?_) (fun c => absurd (show (nI 1) = 0 from c) (by decide +kernel))
      refine lv_aload_n hx hb dX7_rope_25 rfl (lv_at hl 0 rfl) ?_
      refine g_get hC V (ci := 7) uwX7 0 rfl rfl 0 (by decide) w_249 rfl rfl dX7_rope_26 ?_
      refine g_get hC V (ci := 5) uwX5 1 rfl rfl 13 (by decide) w_84 rfl rfl dX7_rope_29 ?_
      refine lv_iload_n hx hb dX7_rope_32 rfl (lv_at hl 1 rfl) ?_
      refine g_iald hC V 2 rfl (vp_in_nI (by omega) (by omega)) (v := (nf9 j_1)) (congrArg _ (nI_clamp (by omega))) dX7_rope_33 ?_
      refine lv_istore_n (lv' := [(3, .int (nf9 j_1)), (0, .ref o), (1, .int (nI j_1)), (2, .int (nI j_5))]) hx hb dX7_rope_34 rfl hl (by decide) rfl (fun ls hl => ?_)
      refine lv_aload_n hx hb dX7_rope_35 rfl (lv_at hl 1 rfl) ?_
      refine g_get hC V (ci := 7) uwX7 0 rfl rfl 0 (by decide) w_249 rfl rfl dX7_rope_36 ?_
      refine g_get hC V (ci := 5) uwX5 1 rfl rfl 13 (by decide) w_84 rfl rfl dX7_rope_39 ?_
      refine lv_iload_n hx hb dX7_rope_42 rfl (lv_at hl 2 rfl) ?_
      refine lv_iload_n hx hb dX7_rope_43 rfl (lv_at hl 3 rfl) ?_
      refine g_iast hC V 2 rfl (vp_in_nI (by omega) (by omega)) (f' := (upd nf9 j_1 (nI j_5))) (by rw [nI_clamp (by omega)]) (ws' := [(o, .inr (7, [.ref n0, .ref s0, .ref im, .ref iz, .ref rw, .ref t0, .ref u0, .ref h0, .ref y0, sv])), (n0, .inr (5, [.int (nI nn), .int nm, .int nl, .int no, .int nu, .ref n1, .ref n2, .ref n3, .ref n4, .ref n5, .ref n6, .ref n7, .ref n8, .ref n9, .ref n10])), (n9, .inl (T 0, 10, .inl (upd nf9 j_1 (nI j_5))))]) rfl dX7_rope_44 (fun H locs V => ?_)
      refine lv_iload_n hx hb dX7_rope_45 rfl (lv_at hl 0 rfl) ?_
      exact g_iret (Qr := (q_x_rope_f T nf1 nf2 nf3 nf4 nf5 nf6 nf7 fa o i to n0 s0 im iz rw t0 u0 h0 y0 sv nn nm nl no nu n1 n2 n3 n4 n5 n6 n7 n8 n9 n10 nf9)) hC V ⟨(Nat.le_of_ble_eq_true rfl), (Nat.le_of_ble_eq_true rfl)⟩ ⟨(nf9 j_1), (upd nf9 j_1 (nI j_5)), rfl, rfl, (up_all (p := fun x => bd x nn) h_t (fun _ => bd_nI (by assumption))), ((h_sr.2.2.2.2 j_1 f_3).2.2.2.2.2.2.2.trans (rp_y (f := fa) h_n f_2 f_3 f_6 f_7).1), (by rw [← (rp_y (f := fa) h_n f_2 f_3 f_6 f_7).2]; exact SR_9 h_n h_sr f_3)⟩ dX7_rope_46
    · have V : gW D T A s [(o, .inr (7, [.ref n0, .ref s0, .ref im, .ref iz, .ref rw, .ref t0, .ref u0, .ref h0, .ref y0, sv])), (n0, .inr (5, [.int (nI nn), .int nm, .int nl, .int no, .int nu, .ref n1, .ref n2, .ref n3, .ref n4, .ref n5, .ref n6, .ref n7, .ref n8, .ref n9, .ref n10])), (n9, .inl (T 0, 10, .inl nf9))] H locs := V _ [1] rfl rfl rfl (by decide +kernel) rfl
      show W p l e _ s m args below meth c H locs _ _ _ (F0 m 19 ls [.int (nI 0)])
      refine lv_if_ne (tgt := 25) hx hb dX7_rope_19 (by decide) (fun c => absurd (show (nI 0) = 0 by decide +kernel) c) (fun _ => ?_)
      refine lv_bipush (v := (-2)) hx hb dX7_rope_22 (by decide +kernel) ?_
      exact g_iret (Qr := (q_x_rope_f T nf1 nf2 nf3 nf4 nf5 nf6 nf7 fa o i to n0 s0 im iz rw t0 u0 h0 y0 sv nn nm nl no nu n1 n2 n3 n4 n5 n6 n7 n8 n9 n10 nf9)) hC V ⟨(Nat.le_of_ble_eq_true rfl), (Nat.le_of_ble_eq_true rfl)⟩ ⟨(-2), nf9, rfl, rfl, h_t, (rp_2 (f := fa) (i := i) f_8).1, (by rw [← (rp_2 (f := fa) (i := i) f_8).2]; exact h_sr)⟩ dX7_rope_24
  · have V : gW D T A s [(o, .inr (7, [.ref n0, .ref s0, .ref im, .ref iz, .ref rw, .ref t0, .ref u0, .ref h0, .ref y0, sv])), (n0, .inr (5, [.int (nI nn), .int nm, .int nl, .int no, .int nu, .ref n1, .ref n2, .ref n3, .ref n4, .ref n5, .ref n6, .ref n7, .ref n8, .ref n9, .ref n10])), (n9, .inl (T 0, 10, .inl nf9))] H locs := V _ [1] rfl rfl rfl (by decide +kernel) rfl
    show W p l e _ s m args below meth c H locs _ _ _ (F0 m 8 ls [.int (nI 0)])
    refine lv_if_eq (tgt := 22) hx hb dX7_rope_8 (by decide) (fun _ => ?_) (fun c => absurd (show (nI 0) = 0 by decide +kernel) c)
    refine lv_bipush (v := (-2)) hx hb dX7_rope_22 (by decide +kernel) ?_
    exact g_iret (Qr := (q_x_rope_f T nf1 nf2 nf3 nf4 nf5 nf6 nf7 fa o i to n0 s0 im iz rw t0 u0 h0 y0 sv nn nm nl no nu n1 n2 n3 n4 n5 n6 n7 n8 n9 n10 nf9)) hC V ⟨(Nat.le_of_ble_eq_true rfl), (Nat.le_of_ble_eq_true rfl)⟩ ⟨(-2), nf9, rfl, rfl, h_t, (rp_1 (f := fa) (to := to) f_4).1, (by rw [← (rp_1 (f := fa) (to := to) f_4).2]; exact h_sr)⟩ dX7_rope_24

def q_x_arm_f (T : Nat → ClassId) (nf2 : Nat → Int32) (nf3 : Nat → Int32) (nf4 : Nat → Int32) (nf5 : Nat → Int32) (nf6 : Nat → Int32) (nf7 : Nat → Int32) (nf9 : Nat → Int32) (fa : Nat → Int32) (o : Nat) (i : Int32) (bl : Int32) (n0 : Nat) (s0 : Nat) (im : Nat) (iz : Nat) (rw : Nat) (t0 : Nat) (u0 : Nat) (h0 : Nat) (y0 : Nat) (sv : Value) (nn : Nat) (nm : Int32) (nl : Int32) (no : Int32) (nu : Int32) (n1 : Nat) (n2 : Nat) (n3 : Nat) (n4 : Nat) (n5 : Nat) (n6 : Nat) (n7 : Nat) (n8 : Nat) (n9 : Nat) (n10 : Nat) (nf1 : Nat → Int32) : Option Value → va_W → Prop := fun rr ww => (∃ (z : Int32) (g1 : Nat → Int32), rr = some (.int z) ∧ ww = [(o, .inr (7, [.ref n0, .ref s0, .ref im, .ref iz, .ref rw, .ref t0, .ref u0, .ref h0, .ref y0, sv])), (n0, .inr (5, [.int (nI nn), .int nm, .int nl, .int no, .int nu, .ref n1, .ref n2, .ref n3, .ref n4, .ref n5, .ref n6, .ref n7, .ref n8, .ref n9, .ref n10])), (n1, .inl (T 0, 10, .inl g1))] ∧ z = armA nn fa i bl ∧ SR nn nm nl no g1 nf2 nf3 nf4 nf5 nf6 nf7 nf9 (armF nn fa i bl))
set_option maxHeartbeats 4000000 in
set_option maxRecDepth 100000 in
theorem x_arm_f (l : Launch) (D : va_G) (T : Nat → ClassId) (nf2 : Nat → Int32) (nf3 : Nat → Int32) (nf4 : Nat → Int32) (nf5 : Nat → Int32) (nf6 : Nat → Int32) (nf7 : Nat → Int32) (nf9 : Nat → Int32) (fa : Nat → Int32) (o : Nat) (i : Int32) (bl : Int32) (n0 : Nat) (s0 : Nat) (im : Nat) (iz : Nat) (rw : Nat) (t0 : Nat) (u0 : Nat) (h0 : Nat) (y0 : Nat) (sv : Value) (nn : Nat) (nm : Int32) (nl : Int32) (no : Int32) (nu : Int32) (n1 : Nat) (n2 : Nat) (n3 : Nat) (n4 : Nat) (n5 : Nat) (n6 : Nat) (n7 : Nat) (n8 : Nat) (n9 : Nat) (n10 : Nat) (nf1 : Nat → Int32) (h_n : nn ≤ 10) (h_sr : SR nn nm nl no nf1 nf2 nf3 nf4 nf5 nf6 nf7 nf9 fa) : Ct l yX7_arm cX7_arm 4 (some .int) 1 0 0 D T [.ref o, .int i, .int bl] [(o, .inr (7, [.ref n0, .ref s0, .ref im, .ref iz, .ref rw, .ref t0, .ref u0, .ref h0, .ref y0, sv])), (n0, .inr (5, [.int (nI nn), .int nm, .int nl, .int no, .int nu, .ref n1, .ref n2, .ref n3, .ref n4, .ref n5, .ref n6, .ref n7, .ref n8, .ref n9, .ref n10])), (n1, .inl (T 0, 10, .inl nf1))] (q_x_arm_f T nf2 nf3 nf4 nf5 nf6 nf7 nf9 fa o i bl n0 s0 im iz rw t0 u0 h0 y0 sv nn nm nl no nu n1 n2 n3 n4 n5 n6 n7 n8 n9 n10 nf1) := by
  refine Ct.of (cc := cX7_arm) (maxL := 4) (ret := (some .int)) (by decide) (Nat.le_of_ble_eq_true rfl) ?_
  intro p e s m args below meth c A ls hC hnm V hl
  obtain ⟨hx, hb, hr, hml, hown, hts, hlocks⟩ := id hC
  generalize hH : s.heap = H at V ⊢
  clear hH
  have hl : lv_has ls 4 [(0, .ref o), (1, .int i), (2, .int bl)] := hl
  generalize hlo : ([] : List Loc) = locs at V ⊢
  clear hlo
  refine lv_aload_n hx hb dX7_arm_0 rfl (lv_at hl 0 rfl) ?_
  refine g_get hC V (ci := 7) uwX7 0 rfl rfl 0 (by decide) w_249 rfl rfl dX7_arm_1 ?_
  refine lv_iload_n hx hb dX7_arm_4 rfl (lv_at hl 1 rfl) ?_
  refine g_callVU (nA := 1) hC V hl.1 (s_isSmith l D T n0 i nn nm nl no nu n1 n2 n3 n4 n5 n6 n7 n8 n9 n10 (by first | assumption | omega)) w_425 w_426 w_427 w_3 w_428 (by decide +kernel) rfl ⟨(Nat.le_of_ble_eq_true rfl), (Nat.le_of_ble_eq_true rfl)⟩ 1 (ci := 5) rfl rfl [1] rfl rfl (Nat.le_of_ble_eq_true rfl) dX7_arm_5 ⟨(Nat.le_of_ble_eq_true rfl), (Nat.le_of_ble_eq_true rfl)⟩ rfl (fun r w1 H locs hQ V => ?_)
  rcases hQ with ⟨j_1, rfl, rfl, f_2, f_3⟩ | ⟨rfl, rfl, f_4⟩
  · have V : gW D T A s [(o, .inr (7, [.ref n0, .ref s0, .ref im, .ref iz, .ref rw, .ref t0, .ref u0, .ref h0, .ref y0, sv])), (n0, .inr (5, [.int (nI nn), .int nm, .int nl, .int no, .int nu, .ref n1, .ref n2, .ref n3, .ref n4, .ref n5, .ref n6, .ref n7, .ref n8, .ref n9, .ref n10])), (n1, .inl (T 0, 10, .inl nf1))] H locs := V _ [1] rfl rfl rfl (by decide +kernel) rfl
    show W p l e _ s m args below meth c H locs _ _ _ (F0 m 8 ls [.int (nI 1)])
    rw [f_2] at hl
    refine lv_if_ne (tgt := 14) hx hb dX7_arm_8 (by decide) (fun _ => ?_) (fun c => absurd (show (nI 1) = 0 from c) (by decide +kernel))
    refine lv_iload_n hx hb dX7_arm_14 rfl (lv_at hl 2 rfl) ?_
    refine lv_iconst (v := (nI 0)) hx hb dX7_arm_15 (by decide +kernel) ?_
    refine lv_bipush (v := (nI 60)) hx hb dX7_arm_16 (by decide +kernel) ?_
    refine g_callSU (nA := 3) hC V hl.1 (c_isWithin l D T bl (nI 0) (nI 60)) w_292 w_293 w_2 w_294 (by decide +kernel) rfl ⟨(Nat.le_of_ble_eq_true rfl), (Nat.le_of_ble_eq_true rfl)⟩ [] rfl rfl (Nat.le_of_ble_eq_true rfl) dX7_arm_18 ⟨(Nat.le_of_ble_eq_true rfl), (Nat.le_of_ble_eq_true rfl)⟩ rfl (fun r w1 H locs hQ V => ?_)
    rcases hQ with ⟨rfl, rfl, f_5, f_6⟩ | ⟨rfl, rfl, f_7⟩
    · have V : gW D T A s [(o, .inr (7, [.ref n0, .ref s0, .ref im, .ref iz, .ref rw, .ref t0, .ref u0, .ref h0, .ref y0, sv])), (n0, .inr (5, [.int (nI nn), .int nm, .int nl, .int no, .int nu, .ref n1, .ref n2, .ref n3, .ref n4, .ref n5, .ref n6, .ref n7, .ref n8, .ref n9, .ref n10])), (n1, .inl (T 0, 10, .inl nf1))] H locs := V _ [] rfl rfl rfl (by decide +kernel) rfl
      show W p l e _ s m args below meth c H locs _ _ _ (F0 m 21 ls [.int (nI 1)])
      refine lv_if_ne (tgt := 27) hx hb dX7_arm_21 (by decide) (fun _ => ?_) (fun c => absurd (show (nI 1) = 0 from c) (by decide +kernel))
      refine lv_aload_n hx hb dX7_arm_27 rfl (lv_at hl 0 rfl) ?_
      refine g_get hC V (ci := 7) uwX7 0 rfl rfl 0 (by decide) w_249 rfl rfl dX7_arm_28 ?_
      refine g_get hC V (ci := 5) uwX5 1 rfl rfl 5 (by decide) w_54 rfl rfl dX7_arm_31 ?_
      refine lv_iload_n hx hb dX7_arm_34 rfl (lv_at hl 1 rfl) ?_
      refine g_iald hC V 2 rfl (vp_in_nI (by omega) (by omega)) (v := (nf1 j_1)) (congrArg _ (nI_clamp (by omega))) dX7_arm_35 ?_
      refine lv_istore_n (lv' := [(3, .int (nf1 j_1)), (0, .ref o), (1, .int (nI j_1)), (2, .int bl)]) hx hb dX7_arm_36 rfl hl (by decide) rfl (fun ls hl => ?_)
      refine lv_aload_n hx hb dX7_arm_37 rfl (lv_at hl 1 rfl) ?_
      refine g_get hC V (ci := 7) uwX7 0 rfl rfl 0 (by decide) w_249 rfl rfl dX7_arm_38 ?_
      refine g_get hC V (ci := 5) uwX5 1 rfl rfl 5 (by decide) w_54 rfl rfl dX7_arm_41 ?_
      refine lv_iload_n hx hb dX7_arm_44 rfl (lv_at hl 2 rfl) ?_
      refine lv_iload_n hx hb dX7_arm_45 rfl (lv_at hl 3 rfl) ?_
      refine g_iast hC V 2 rfl (vp_in_nI (by omega) (by omega)) (f' := (upd nf1 j_1 bl)) (by rw [nI_clamp (by omega)]) (ws' := [(o, .inr (7, [.ref n0, .ref s0, .ref im, .ref iz, .ref rw, .ref t0, .ref u0, .ref h0, .ref y0, sv])), (n0, .inr (5, [.int (nI nn), .int nm, .int nl, .int no, .int nu, .ref n1, .ref n2, .ref n3, .ref n4, .ref n5, .ref n6, .ref n7, .ref n8, .ref n9, .ref n10])), (n1, .inl (T 0, 10, .inl (upd nf1 j_1 bl)))]) rfl dX7_arm_46 (fun H locs V => ?_)
      refine lv_iload_n hx hb dX7_arm_47 rfl (lv_at hl 0 rfl) ?_
      exact g_iret (Qr := (q_x_arm_f T nf2 nf3 nf4 nf5 nf6 nf7 nf9 fa o i bl n0 s0 im iz rw t0 u0 h0 y0 sv nn nm nl no nu n1 n2 n3 n4 n5 n6 n7 n8 n9 n10 nf1)) hC V ⟨(Nat.le_of_ble_eq_true rfl), (Nat.le_of_ble_eq_true rfl)⟩ ⟨(nf1 j_1), (upd nf1 j_1 bl), rfl, rfl, ((h_sr.2.2.2.2 j_1 f_3).1.trans (ar_y (f := fa) h_n f_2 f_3 f_5 f_6).1), (by rw [← (ar_y (f := fa) h_n f_2 f_3 f_5 f_6).2]; exact SR_1 h_n h_sr f_3)⟩ dX7_arm_48
    · have V : gW D T A s [(o, .inr (7, [.ref n0, .ref s0, .ref im, .ref iz, .ref rw, .ref t0, .ref u0, .ref h0, .ref y0, sv])), (n0, .inr (5, [.int (nI nn), .int nm, .int nl, .int no, .int nu, .ref n1, .ref n2, .ref n3, .ref n4, .ref n5, .ref n6, .ref n7, .ref n8, .ref n9, .ref n10])), (n1, .inl (T 0, 10, .inl nf1))] H locs := V _ [] rfl rfl rfl (by decide +kernel) rfl
      show W p l e _ s m args below meth c H locs _ _ _ (F0 m 21 ls [.int (nI 0)])
      refine lv_if_ne (tgt := 27) hx hb dX7_arm_21 (by decide) (fun c => absurd (show (nI 0) = 0 by decide +kernel) c) (fun _ => ?_)
      refine lv_bipush (v := (-3)) hx hb dX7_arm_24 (by decide +kernel) ?_
      exact g_iret (Qr := (q_x_arm_f T nf2 nf3 nf4 nf5 nf6 nf7 nf9 fa o i bl n0 s0 im iz rw t0 u0 h0 y0 sv nn nm nl no nu n1 n2 n3 n4 n5 n6 n7 n8 n9 n10 nf1)) hC V ⟨(Nat.le_of_ble_eq_true rfl), (Nat.le_of_ble_eq_true rfl)⟩ ⟨(-3), nf1, rfl, rfl, (ar_2 (f := fa) h_n f_2 f_3 f_7).1, (by rw [← (ar_2 (f := fa) h_n f_2 f_3 f_7).2]; exact h_sr)⟩ dX7_arm_26
  · have V : gW D T A s [(o, .inr (7, [.ref n0, .ref s0, .ref im, .ref iz, .ref rw, .ref t0, .ref u0, .ref h0, .ref y0, sv])), (n0, .inr (5, [.int (nI nn), .int nm, .int nl, .int no, .int nu, .ref n1, .ref n2, .ref n3, .ref n4, .ref n5, .ref n6, .ref n7, .ref n8, .ref n9, .ref n10])), (n1, .inl (T 0, 10, .inl nf1))] H locs := V _ [1] rfl rfl rfl (by decide +kernel) rfl
    show W p l e _ s m args below meth c H locs _ _ _ (F0 m 8 ls [.int (nI 0)])
    refine lv_if_ne (tgt := 14) hx hb dX7_arm_8 (by decide) (fun c => absurd (show (nI 0) = 0 by decide +kernel) c) (fun _ => ?_)
    refine lv_bipush (v := (-2)) hx hb dX7_arm_11 (by decide +kernel) ?_
    exact g_iret (Qr := (q_x_arm_f T nf2 nf3 nf4 nf5 nf6 nf7 nf9 fa o i bl n0 s0 im iz rw t0 u0 h0 y0 sv nn nm nl no nu n1 n2 n3 n4 n5 n6 n7 n8 n9 n10 nf1)) hC V ⟨(Nat.le_of_ble_eq_true rfl), (Nat.le_of_ble_eq_true rfl)⟩ ⟨(-2), nf1, rfl, rfl, (ar_1 (f := fa) (b := bl) f_4).1, (by rw [← (ar_1 (f := fa) (b := bl) f_4).2]; exact h_sr)⟩ dX7_arm_13

def q_x_piece_f (T : Nat → ClassId) (nf1 : Nat → Int32) (nf2 : Nat → Int32) (nf3 : Nat → Int32) (nf4 : Nat → Int32) (nf5 : Nat → Int32) (nf9 : Nat → Int32) (fa : Nat → Int32) (o : Nat) (i : Int32) (st : Int32) (n0 : Nat) (s0 : Nat) (im : Nat) (iz : Nat) (rw : Nat) (t0 : Nat) (u0 : Nat) (h0 : Nat) (y0 : Nat) (sv : Value) (nn : Nat) (nm : Int32) (nl : Int32) (no : Int32) (nu : Int32) (n1 : Nat) (n2 : Nat) (n3 : Nat) (n4 : Nat) (n5 : Nat) (n6 : Nat) (n7 : Nat) (n8 : Nat) (n9 : Nat) (n10 : Nat) (nf6 : Nat → Int32) (nf7 : Nat → Int32) (nf8 : Nat → Int32) : Option Value → va_W → Prop := fun rr ww => (∃ (z : Int32) (g6 : Nat → Int32) (g7 : Nat → Int32) (g8 : Nat → Int32), rr = some (.int z) ∧ ww = [(o, .inr (7, [.ref n0, .ref s0, .ref im, .ref iz, .ref rw, .ref t0, .ref u0, .ref h0, .ref y0, sv])), (n0, .inr (5, [.int (nI nn), .int nm, .int nl, .int no, .int nu, .ref n1, .ref n2, .ref n3, .ref n4, .ref n5, .ref n6, .ref n7, .ref n8, .ref n9, .ref n10])), (n6, .inl (T 0, 10, .inl g6)), (n7, .inl (T 0, 10, .inl g7)), (n8, .inl (T 0, 10, .inl g8))] ∧ z = pieA nn fa i st ∧ SR nn nm nl no nf1 nf2 nf3 nf4 nf5 g6 g7 nf9 (pieF nn fa i st))
set_option maxHeartbeats 4000000 in
set_option maxRecDepth 100000 in
theorem x_piece_f (l : Launch) (D : va_G) (T : Nat → ClassId) (nf1 : Nat → Int32) (nf2 : Nat → Int32) (nf3 : Nat → Int32) (nf4 : Nat → Int32) (nf5 : Nat → Int32) (nf9 : Nat → Int32) (fa : Nat → Int32) (o : Nat) (i : Int32) (st : Int32) (n0 : Nat) (s0 : Nat) (im : Nat) (iz : Nat) (rw : Nat) (t0 : Nat) (u0 : Nat) (h0 : Nat) (y0 : Nat) (sv : Value) (nn : Nat) (nm : Int32) (nl : Int32) (no : Int32) (nu : Int32) (n1 : Nat) (n2 : Nat) (n3 : Nat) (n4 : Nat) (n5 : Nat) (n6 : Nat) (n7 : Nat) (n8 : Nat) (n9 : Nat) (n10 : Nat) (nf6 : Nat → Int32) (nf7 : Nat → Int32) (nf8 : Nat → Int32) (h_n : nn ≤ 10) (h_sr : SR nn nm nl no nf1 nf2 nf3 nf4 nf5 nf6 nf7 nf9 fa) : Ct l yX7_piece cX7_piece 4 (some .int) 1 0 0 D T [.ref o, .int i, .int st] [(o, .inr (7, [.ref n0, .ref s0, .ref im, .ref iz, .ref rw, .ref t0, .ref u0, .ref h0, .ref y0, sv])), (n0, .inr (5, [.int (nI nn), .int nm, .int nl, .int no, .int nu, .ref n1, .ref n2, .ref n3, .ref n4, .ref n5, .ref n6, .ref n7, .ref n8, .ref n9, .ref n10])), (n6, .inl (T 0, 10, .inl nf6)), (n7, .inl (T 0, 10, .inl nf7)), (n8, .inl (T 0, 10, .inl nf8))] (q_x_piece_f T nf1 nf2 nf3 nf4 nf5 nf9 fa o i st n0 s0 im iz rw t0 u0 h0 y0 sv nn nm nl no nu n1 n2 n3 n4 n5 n6 n7 n8 n9 n10 nf6 nf7 nf8) := by
  refine Ct.of (cc := cX7_piece) (maxL := 4) (ret := (some .int)) (by decide) (Nat.le_of_ble_eq_true rfl) ?_
  intro p e s m args below meth c A ls hC hnm V hl
  obtain ⟨hx, hb, hr, hml, hown, hts, hlocks⟩ := id hC
  generalize hH : s.heap = H at V ⊢
  clear hH
  have hl : lv_has ls 4 [(0, .ref o), (1, .int i), (2, .int st)] := hl
  generalize hlo : ([] : List Loc) = locs at V ⊢
  clear hlo
  refine lv_aload_n hx hb dX7_piece_0 rfl (lv_at hl 0 rfl) ?_
  refine g_get hC V (ci := 7) uwX7 0 rfl rfl 0 (by decide) w_249 rfl rfl dX7_piece_1 ?_
  refine lv_iload_n hx hb dX7_piece_4 rfl (lv_at hl 1 rfl) ?_
  refine g_callVU (nA := 1) hC V hl.1 (s_isSmith l D T n0 i nn nm nl no nu n1 n2 n3 n4 n5 n6 n7 n8 n9 n10 (by first | assumption | omega)) w_425 w_426 w_427 w_3 w_428 (by decide +kernel) rfl ⟨(Nat.le_of_ble_eq_true rfl), (Nat.le_of_ble_eq_true rfl)⟩ 1 (ci := 5) rfl rfl [1] rfl rfl (Nat.le_of_ble_eq_true rfl) dX7_piece_5 ⟨(Nat.le_of_ble_eq_true rfl), (Nat.le_of_ble_eq_true rfl)⟩ rfl (fun r w1 H locs hQ V => ?_)
  rcases hQ with ⟨j_1, rfl, rfl, f_2, f_3⟩ | ⟨rfl, rfl, f_4⟩
  · have V : gW D T A s [(o, .inr (7, [.ref n0, .ref s0, .ref im, .ref iz, .ref rw, .ref t0, .ref u0, .ref h0, .ref y0, sv])), (n0, .inr (5, [.int (nI nn), .int nm, .int nl, .int no, .int nu, .ref n1, .ref n2, .ref n3, .ref n4, .ref n5, .ref n6, .ref n7, .ref n8, .ref n9, .ref n10])), (n6, .inl (T 0, 10, .inl nf6)), (n7, .inl (T 0, 10, .inl nf7)), (n8, .inl (T 0, 10, .inl nf8))] H locs := V _ [1] rfl rfl rfl (by decide +kernel) rfl
    show W p l e _ s m args below meth c H locs _ _ _ (F0 m 8 ls [.int (nI 1)])
    rw [f_2] at hl
    refine lv_if_ne (tgt := 14) hx hb dX7_piece_8 (by decide) (fun _ => ?_) (fun c => absurd (show (nI 1) = 0 from c) (by decide +kernel))
    refine lv_iload_n hx hb dX7_piece_14 rfl (lv_at hl 2 rfl) ?_
    refine lv_iconst (v := (nI 0)) hx hb dX7_piece_15 (by decide +kernel) ?_
    refine lv_bipush (v := (nI 20)) hx hb dX7_piece_16 (by decide +kernel) ?_
    refine g_callSU (nA := 3) hC V hl.1 (c_isWithin l D T st (nI 0) (nI 20)) w_292 w_293 w_2 w_294 (by decide +kernel) rfl ⟨(Nat.le_of_ble_eq_true rfl), (Nat.le_of_ble_eq_true rfl)⟩ [] rfl rfl (Nat.le_of_ble_eq_true rfl) dX7_piece_18 ⟨(Nat.le_of_ble_eq_true rfl), (Nat.le_of_ble_eq_true rfl)⟩ rfl (fun r w1 H locs hQ V => ?_)
    rcases hQ with ⟨rfl, rfl, f_5, f_6⟩ | ⟨rfl, rfl, f_7⟩
    · have V : gW D T A s [(o, .inr (7, [.ref n0, .ref s0, .ref im, .ref iz, .ref rw, .ref t0, .ref u0, .ref h0, .ref y0, sv])), (n0, .inr (5, [.int (nI nn), .int nm, .int nl, .int no, .int nu, .ref n1, .ref n2, .ref n3, .ref n4, .ref n5, .ref n6, .ref n7, .ref n8, .ref n9, .ref n10])), (n6, .inl (T 0, 10, .inl nf6)), (n7, .inl (T 0, 10, .inl nf7)), (n8, .inl (T 0, 10, .inl nf8))] H locs := V _ [] rfl rfl rfl (by decide +kernel) rfl
      show W p l e _ s m args below meth c H locs _ _ _ (F0 m 21 ls [.int (nI 1)])
      refine lv_if_ne (tgt := 27) hx hb dX7_piece_21 (by decide) (fun _ => ?_) (fun c => absurd (show (nI 1) = 0 from c) (by decide +kernel))
      refine lv_aload_n hx hb dX7_piece_27 rfl (lv_at hl 0 rfl) ?_
      refine g_get hC V (ci := 7) uwX7 0 rfl rfl 0 (by decide) w_249 rfl rfl dX7_piece_28 ?_
      refine g_get hC V (ci := 5) uwX5 1 rfl rfl 11 (by decide) w_79 rfl rfl dX7_piece_31 ?_
      refine lv_iload_n hx hb dX7_piece_34 rfl (lv_at hl 1 rfl) ?_
      refine g_iald hC V 3 rfl (vp_in_nI (by omega) (by omega)) (v := (nf7 j_1)) (congrArg _ (nI_clamp (by omega))) dX7_piece_35 ?_
      refine lv_istore_n (lv' := [(3, .int (nf7 j_1)), (0, .ref o), (1, .int (nI j_1)), (2, .int st)]) hx hb dX7_piece_36 rfl hl (by decide) rfl (fun ls hl => ?_)
      refine lv_aload_n hx hb dX7_piece_37 rfl (lv_at hl 1 rfl) ?_
      refine g_get hC V (ci := 7) uwX7 0 rfl rfl 0 (by decide) w_249 rfl rfl dX7_piece_38 ?_
      refine lv_iload_n hx hb dX7_piece_41 rfl (lv_at hl 2 rfl) ?_
      refine lv_iload_n hx hb dX7_piece_42 rfl (lv_at hl 3 rfl) ?_
      refine g_callVU (nA := 2) hC V hl.1 (s_beginPiece l D T n0 j_1 st nn nm nl no nu n1 n2 n3 n4 n5 n6 n7 n8 n9 n10 nf6 nf7 nf8 (by first | assumption | omega)) w_453 w_396 w_397 w_3 w_398 (by decide +kernel) rfl ⟨(Nat.le_of_ble_eq_true rfl), (Nat.le_of_ble_eq_true rfl)⟩ 1 (ci := 5) rfl rfl [1, 2, 3, 4] rfl rfl (Nat.le_of_ble_eq_true rfl) dX7_piece_43 ⟨(Nat.le_of_ble_eq_true rfl), (Nat.le_of_ble_eq_true rfl)⟩ rfl (fun r w1 H locs hQ V => ?_)
      obtain ⟨g6_8, g7_9, g8_10, rfl, rfl, f_11, f_12, f_13⟩ := hQ
      have V : gW D T A s [(o, .inr (7, [.ref n0, .ref s0, .ref im, .ref iz, .ref rw, .ref t0, .ref u0, .ref h0, .ref y0, sv])), (n0, .inr (5, [.int (nI nn), .int nm, .int nl, .int no, .int nu, .ref n1, .ref n2, .ref n3, .ref n4, .ref n5, .ref n6, .ref n7, .ref n8, .ref n9, .ref n10])), (n6, .inl (T 0, 10, .inl g6_8)), (n7, .inl (T 0, 10, .inl g7_9)), (n8, .inl (T 0, 10, .inl g8_10))] H locs := V _ [1, 0, 0, 0] rfl rfl rfl (by decide +kernel) rfl
      show W p l e _ s m args below meth c H locs _ _ _ (F0 m 46 ls [])
      refine lv_iload_n hx hb dX7_piece_46 rfl (lv_at hl 0 rfl) ?_
      exact g_iret (Qr := (q_x_piece_f T nf1 nf2 nf3 nf4 nf5 nf9 fa o i st n0 s0 im iz rw t0 u0 h0 y0 sv nn nm nl no nu n1 n2 n3 n4 n5 n6 n7 n8 n9 n10 nf6 nf7 nf8)) hC V ⟨(Nat.le_of_ble_eq_true rfl), (Nat.le_of_ble_eq_true rfl)⟩ ⟨(nf7 j_1), g6_8, g7_9, g8_10, rfl, rfl, ((h_sr.2.2.2.2 j_1 f_3).2.2.2.2.2.2.1.trans (pi_y (f := fa) h_n f_2 f_3 f_5 f_6).1), (by rw [f_11, f_12, ← (pi_y (f := fa) h_n f_2 f_3 f_5 f_6).2]; exact SR_67 h_n h_sr f_3)⟩ dX7_piece_47
    · have V : gW D T A s [(o, .inr (7, [.ref n0, .ref s0, .ref im, .ref iz, .ref rw, .ref t0, .ref u0, .ref h0, .ref y0, sv])), (n0, .inr (5, [.int (nI nn), .int nm, .int nl, .int no, .int nu, .ref n1, .ref n2, .ref n3, .ref n4, .ref n5, .ref n6, .ref n7, .ref n8, .ref n9, .ref n10])), (n6, .inl (T 0, 10, .inl nf6)), (n7, .inl (T 0, 10, .inl nf7)), (n8, .inl (T 0, 10, .inl nf8))] H locs := V _ [] rfl rfl rfl (by decide +kernel) rfl
      show W p l e _ s m args below meth c H locs _ _ _ (F0 m 21 ls [.int (nI 0)])
      refine lv_if_ne (tgt := 27) hx hb dX7_piece_21 (by decide) (fun c => absurd (show (nI 0) = 0 by decide +kernel) c) (fun _ => ?_)
      refine lv_bipush (v := (-3)) hx hb dX7_piece_24 (by decide +kernel) ?_
      exact g_iret (Qr := (q_x_piece_f T nf1 nf2 nf3 nf4 nf5 nf9 fa o i st n0 s0 im iz rw t0 u0 h0 y0 sv nn nm nl no nu n1 n2 n3 n4 n5 n6 n7 n8 n9 n10 nf6 nf7 nf8)) hC V ⟨(Nat.le_of_ble_eq_true rfl), (Nat.le_of_ble_eq_true rfl)⟩ ⟨(-3), nf6, nf7, nf8, rfl, rfl, (pi_2 (f := fa) h_n f_2 f_3 f_7).1, (by rw [← (pi_2 (f := fa) h_n f_2 f_3 f_7).2]; exact h_sr)⟩ dX7_piece_26
  · have V : gW D T A s [(o, .inr (7, [.ref n0, .ref s0, .ref im, .ref iz, .ref rw, .ref t0, .ref u0, .ref h0, .ref y0, sv])), (n0, .inr (5, [.int (nI nn), .int nm, .int nl, .int no, .int nu, .ref n1, .ref n2, .ref n3, .ref n4, .ref n5, .ref n6, .ref n7, .ref n8, .ref n9, .ref n10])), (n6, .inl (T 0, 10, .inl nf6)), (n7, .inl (T 0, 10, .inl nf7)), (n8, .inl (T 0, 10, .inl nf8))] H locs := V _ [1] rfl rfl rfl (by decide +kernel) rfl
    show W p l e _ s m args below meth c H locs _ _ _ (F0 m 8 ls [.int (nI 0)])
    refine lv_if_ne (tgt := 14) hx hb dX7_piece_8 (by decide) (fun c => absurd (show (nI 0) = 0 by decide +kernel) c) (fun _ => ?_)
    refine lv_bipush (v := (-2)) hx hb dX7_piece_11 (by decide +kernel) ?_
    exact g_iret (Qr := (q_x_piece_f T nf1 nf2 nf3 nf4 nf5 nf9 fa o i st n0 s0 im iz rw t0 u0 h0 y0 sv nn nm nl no nu n1 n2 n3 n4 n5 n6 n7 n8 n9 n10 nf6 nf7 nf8)) hC V ⟨(Nat.le_of_ble_eq_true rfl), (Nat.le_of_ble_eq_true rfl)⟩ ⟨(-2), nf6, nf7, nf8, rfl, rfl, (pi_1 (f := fa) (b := st) f_4).1, (by rw [← (pi_1 (f := fa) (b := st) f_4).2]; exact h_sr)⟩ dX7_piece_13

def q_m_isSmith_f (T : Nat → ClassId) (n : Nat) (o : Nat) (i : Int32) (w0 : Int32) (g1 : Nat) (g2 : Nat) (g3 : Nat) (g4 : Nat) (tp : Nat) (w6 : Int32) (w7 : Int32) (w8 : Int32) (w9 : Int32) (w10 : Int32) (w11 : Int32) (w12 : Int32) (w13 : Int32) (w14 : Int32) (g15 : Nat) (w16 : Int32) (g17 : Nat) (w18 : Int32) (w19 : Int32) (g20 : Nat) (w21 : Int32) (g22 : Nat) (g23 : Nat) (g24 : Nat) (w25 : Int32) (w26 : Int32) (w27 : Int32) (g28 : Nat) (g29 : Nat) (w30 : Int32) (g31 : Nat) (g32 : Nat) (g33 : Nat) (fa : Nat → Int32) : Option Value → va_W → Prop := fun rr ww => (∃ (j : Nat), rr = some (.int (nI 1)) ∧ ww = [(o, .inr (8, [.int w0, .ref g1, .ref g2, .ref g3, .ref g4, .int (nI tp), .int w6, .int w7, .int w8, .int w9, .int w10, .int w11, .int w12, .int w13, .int w14, .ref g15, .int w16, .ref g17, .int w18, .int w19, .ref g20, .int w21, .ref g22, .ref g23, .ref g24, .int w25, .int w26, .int w27, .ref g28, .ref g29, .int w30, .ref g31, .ref g32, .ref g33])), (g1, .inl (T 0, 282, .inl fa))] ∧ i = nI j ∧ j < n) ∨ (rr = some (.int (nI 0)) ∧ ww = [(o, .inr (8, [.int w0, .ref g1, .ref g2, .ref g3, .ref g4, .int (nI tp), .int w6, .int w7, .int w8, .int w9, .int w10, .int w11, .int w12, .int w13, .int w14, .ref g15, .int w16, .ref g17, .int w18, .int w19, .ref g20, .int w21, .ref g22, .ref g23, .ref g24, .int w25, .int w26, .int w27, .ref g28, .ref g29, .int w30, .ref g31, .ref g32, .ref g33])), (g1, .inl (T 0, 282, .inl fa))] ∧ (i < 0 ∨ nI n ≤ i))
set_option maxHeartbeats 4000000 in
set_option maxRecDepth 100000 in
theorem m_isSmith_f (l : Launch) (D : va_G) (T : Nat → ClassId) (n : Nat) (o : Nat) (i : Int32) (w0 : Int32) (g1 : Nat) (g2 : Nat) (g3 : Nat) (g4 : Nat) (tp : Nat) (w6 : Int32) (w7 : Int32) (w8 : Int32) (w9 : Int32) (w10 : Int32) (w11 : Int32) (w12 : Int32) (w13 : Int32) (w14 : Int32) (g15 : Nat) (w16 : Int32) (g17 : Nat) (w18 : Int32) (w19 : Int32) (g20 : Nat) (w21 : Int32) (g22 : Nat) (g23 : Nat) (g24 : Nat) (w25 : Int32) (w26 : Int32) (w27 : Int32) (g28 : Nat) (g29 : Nat) (w30 : Int32) (g31 : Nat) (g32 : Nat) (g33 : Nat) (fa : Nat → Int32) (h_a : MI n fa) : Ct l yX8_isSmith cX8_isSmith 2 (some .boolean) 1 0 0 D T [.ref o, .int i] [(o, .inr (8, [.int w0, .ref g1, .ref g2, .ref g3, .ref g4, .int (nI tp), .int w6, .int w7, .int w8, .int w9, .int w10, .int w11, .int w12, .int w13, .int w14, .ref g15, .int w16, .ref g17, .int w18, .int w19, .ref g20, .int w21, .ref g22, .ref g23, .ref g24, .int w25, .int w26, .int w27, .ref g28, .ref g29, .int w30, .ref g31, .ref g32, .ref g33])), (g1, .inl (T 0, 282, .inl fa))] (q_m_isSmith_f T n o i w0 g1 g2 g3 g4 tp w6 w7 w8 w9 w10 w11 w12 w13 w14 g15 w16 g17 w18 w19 g20 w21 g22 g23 g24 w25 w26 w27 g28 g29 w30 g31 g32 g33 fa) := by
  refine Ct.of (cc := cX8_isSmith) (maxL := 2) (ret := (some .boolean)) (by decide) (Nat.le_of_ble_eq_true rfl) ?_
  intro p e s m args below meth c A ls hC hnm V hl
  obtain ⟨hx, hb, hr, hml, hown, hts, hlocks⟩ := id hC
  generalize hH : s.heap = H at V ⊢
  clear hH
  have hl : lv_has ls 2 [(0, .ref o), (1, .int i)] := hl
  generalize hlo : ([] : List Loc) = locs at V ⊢
  clear hlo
  have ms0 := ms_rf h_a
  have hn10 := h_a.1
  refine lv_iload_n hx hb dX8_isSmith_0 rfl (lv_at hl 1 rfl) ?_
  refine lv_i2l (v := i.toInt64) hx hb dX8_isSmith_1 rfl ?_
  refine lv_lconst (v := (nI 0).toInt64) hx hb dX8_isSmith_2 (by decide +kernel) ?_
  refine lv_aload_n hx hb dX8_isSmith_3 rfl (lv_at hl 0 rfl) ?_
  refine g_get hC V (ci := 8) uwX8 0 rfl rfl 1 (by decide) w_913 rfl rfl dX8_isSmith_4 ?_
  refine lv_iconst (v := (nI 0)) hx hb dX8_isSmith_7 (by decide +kernel) ?_
  refine g_iald hC V 1 rfl (vp_in_nI (by decide) (by decide)) (v := (nI n)) (by rw [nI_clamp (by decide)]; first | rfl | exact h_a.2.1) dX8_isSmith_8 ?_
  refine lv_iconst (v := (nI 1)) hx hb dX8_isSmith_9 (by decide +kernel) ?_
  refine lv_isub hx hb dX8_isSmith_10 ?_
  refine lv_i2l (v := ((nI n) - (nI 1)).toInt64) hx hb dX8_isSmith_11 rfl ?_
  refine g_callSU (nA := 3) hC V hl.1 (m_within l D T i (nI 0) ((nI n) - (nI 1))) w_1023 w_1024 w_9 w_1025 (by decide +kernel) rfl ⟨(Nat.le_of_ble_eq_true rfl), (Nat.le_of_ble_eq_true rfl)⟩ [] rfl rfl (Nat.le_of_ble_eq_true rfl) dX8_isSmith_12 ⟨(Nat.le_of_ble_eq_true rfl), (Nat.le_of_ble_eq_true rfl)⟩ rfl (fun r w1 H locs hQ V => ?_)
  rcases hQ with ⟨rfl, rfl, f_1, f_2⟩ | ⟨rfl, rfl, f_3⟩
  · have V : gW D T A s [(o, .inr (8, [.int w0, .ref g1, .ref g2, .ref g3, .ref g4, .int (nI tp), .int w6, .int w7, .int w8, .int w9, .int w10, .int w11, .int w12, .int w13, .int w14, .ref g15, .int w16, .ref g17, .int w18, .int w19, .ref g20, .int w21, .ref g22, .ref g23, .ref g24, .int w25, .int w26, .int w27, .ref g28, .ref g29, .int w30, .ref g31, .ref g32, .ref g33])), (g1, .inl (T 0, 282, .inl fa))] H locs := V _ [] rfl rfl rfl (by decide +kernel) rfl
    show W p l e _ s m args below meth c H locs _ _ _ (F0 m 15 ls [.int (nI 1)])
    obtain ⟨j, hj, ej⟩ := pred_bd hn10 f_1 f_2
    exact g_zret (Qr := (q_m_isSmith_f T n o i w0 g1 g2 g3 g4 tp w6 w7 w8 w9 w10 w11 w12 w13 w14 g15 w16 g17 w18 w19 g20 w21 g22 g23 g24 w25 w26 w27 g28 g29 w30 g31 g32 g33 fa)) hC V ⟨(Nat.le_of_ble_eq_true rfl), (Nat.le_of_ble_eq_true rfl)⟩ (by first | decide +kernel | exact rfl) (.inl ⟨j, rfl, rfl, ej, hj⟩) dX8_isSmith_15
  · have V : gW D T A s [(o, .inr (8, [.int w0, .ref g1, .ref g2, .ref g3, .ref g4, .int (nI tp), .int w6, .int w7, .int w8, .int w9, .int w10, .int w11, .int w12, .int w13, .int w14, .ref g15, .int w16, .ref g17, .int w18, .int w19, .ref g20, .int w21, .ref g22, .ref g23, .ref g24, .int w25, .int w26, .int w27, .ref g28, .ref g29, .int w30, .ref g31, .ref g32, .ref g33])), (g1, .inl (T 0, 282, .inl fa))] H locs := V _ [] rfl rfl rfl (by decide +kernel) rfl
    show W p l e _ s m args below meth c H locs _ _ _ (F0 m 15 ls [.int (nI 0)])
    exact g_zret (Qr := (q_m_isSmith_f T n o i w0 g1 g2 g3 g4 tp w6 w7 w8 w9 w10 w11 w12 w13 w14 g15 w16 g17 w18 w19 g20 w21 g22 g23 g24 w25 w26 w27 g28 g29 w30 g31 g32 g33 fa)) hC V ⟨(Nat.le_of_ble_eq_true rfl), (Nat.le_of_ble_eq_true rfl)⟩ (by first | decide +kernel | exact rfl) (.inr ⟨rfl, rfl, (ism_o hn10 f_3)⟩) dX8_isSmith_15

def q_m_rope_f (T : Nat → ClassId) (n : Nat) (o : Nat) (i : Int32) (to : Int32) (w0 : Int32) (g1 : Nat) (g2 : Nat) (g3 : Nat) (g4 : Nat) (tp : Nat) (w6 : Int32) (w7 : Int32) (w8 : Int32) (w9 : Int32) (w10 : Int32) (w11 : Int32) (w12 : Int32) (w13 : Int32) (w14 : Int32) (g15 : Nat) (w16 : Int32) (g17 : Nat) (w18 : Int32) (w19 : Int32) (g20 : Nat) (w21 : Int32) (g22 : Nat) (g23 : Nat) (g24 : Nat) (w25 : Int32) (w26 : Int32) (w27 : Int32) (g28 : Nat) (g29 : Nat) (w30 : Int32) (g31 : Nat) (g32 : Nat) (g33 : Nat) (fa : Nat → Int32) : Option Value → va_W → Prop := fun rr ww => (∃ (z : Int32) (ga : Nat → Int32), rr = some (.int z) ∧ ww = [(o, .inr (8, [.int (nI 0), .ref g1, .ref g2, .ref g3, .ref g4, .int (nI tp), .int w6, .int w7, .int w8, .int w9, .int w10, .int w11, .int w12, .int w13, .int w14, .ref g15, .int w16, .ref g17, .int w18, .int w19, .ref g20, .int w21, .ref g22, .ref g23, .ref g24, .int w25, .int w26, .int w27, .ref g28, .ref g29, .int w30, .ref g31, .ref g32, .ref g33])), (g1, .inl (T 0, 282, .inl ga))] ∧ MS n fa ga ∧ z = ropeA n fa i to ∧ ga = ropeF n fa i to)
set_option maxHeartbeats 4000000 in
set_option maxRecDepth 100000 in
theorem m_rope_f (l : Launch) (D : va_G) (T : Nat → ClassId) (n : Nat) (o : Nat) (i : Int32) (to : Int32) (w0 : Int32) (g1 : Nat) (g2 : Nat) (g3 : Nat) (g4 : Nat) (tp : Nat) (w6 : Int32) (w7 : Int32) (w8 : Int32) (w9 : Int32) (w10 : Int32) (w11 : Int32) (w12 : Int32) (w13 : Int32) (w14 : Int32) (g15 : Nat) (w16 : Int32) (g17 : Nat) (w18 : Int32) (w19 : Int32) (g20 : Nat) (w21 : Int32) (g22 : Nat) (g23 : Nat) (g24 : Nat) (w25 : Int32) (w26 : Int32) (w27 : Int32) (g28 : Nat) (g29 : Nat) (w30 : Int32) (g31 : Nat) (g32 : Nat) (g33 : Nat) (fa : Nat → Int32) (h_a : MI n fa) : Ct l yX8_rope cX8_rope 4 (some .int) 2 0 0 D T [.ref o, .int i, .int to] [(o, .inr (8, [.int w0, .ref g1, .ref g2, .ref g3, .ref g4, .int (nI tp), .int w6, .int w7, .int w8, .int w9, .int w10, .int w11, .int w12, .int w13, .int w14, .ref g15, .int w16, .ref g17, .int w18, .int w19, .ref g20, .int w21, .ref g22, .ref g23, .ref g24, .int w25, .int w26, .int w27, .ref g28, .ref g29, .int w30, .ref g31, .ref g32, .ref g33])), (g1, .inl (T 0, 282, .inl fa))] (q_m_rope_f T n o i to w0 g1 g2 g3 g4 tp w6 w7 w8 w9 w10 w11 w12 w13 w14 g15 w16 g17 w18 w19 g20 w21 g22 g23 g24 w25 w26 w27 g28 g29 w30 g31 g32 g33 fa) := by
  refine Ct.of (cc := cX8_rope) (maxL := 4) (ret := (some .int)) (by decide) (Nat.le_of_ble_eq_true rfl) ?_
  intro p e s m args below meth c A ls hC hnm V hl
  obtain ⟨hx, hb, hr, hml, hown, hts, hlocks⟩ := id hC
  generalize hH : s.heap = H at V ⊢
  clear hH
  have hl : lv_has ls 4 [(0, .ref o), (1, .int i), (2, .int to)] := hl
  generalize hlo : ([] : List Loc) = locs at V ⊢
  clear hlo
  have ms0 := ms_rf h_a
  have hn10 := h_a.1
  refine lv_aload_n hx hb dX8_rope_0 rfl (lv_at hl 0 rfl) ?_
  refine lv_iconst (v := (nI 0)) hx hb dX8_rope_1 (by decide +kernel) ?_
  refine g_put hC V (ci := 8) uwX8 tyX8 tyX8_ok nmX8 0 rfl rfl 0 (by decide) w_912 rfl rfl rfl rfl (Nat.le_of_ble_eq_true rfl) (ws' := [(o, .inr (8, [.int (nI 0), .ref g1, .ref g2, .ref g3, .ref g4, .int (nI tp), .int w6, .int w7, .int w8, .int w9, .int w10, .int w11, .int w12, .int w13, .int w14, .ref g15, .int w16, .ref g17, .int w18, .int w19, .ref g20, .int w21, .ref g22, .ref g23, .ref g24, .int w25, .int w26, .int w27, .ref g28, .ref g29, .int w30, .ref g31, .ref g32, .ref g33])), (g1, .inl (T 0, 282, .inl fa))]) rfl dX8_rope_2 (fun H locs V => ?_)
  refine lv_aload_n hx hb dX8_rope_5 rfl (lv_at hl 0 rfl) ?_
  refine lv_iload_n hx hb dX8_rope_6 rfl (lv_at hl 1 rfl) ?_
  refine g_callV (wr := []) (nA := 1) hC V hl.1 (m_isSmith_f l D T n o i (nI 0) g1 g2 g3 g4 tp w6 w7 w8 w9 w10 w11 w12 w13 w14 g15 w16 g17 w18 w19 g20 w21 g22 g23 g24 w25 w26 w27 g28 g29 w30 g31 g32 g33 fa h_a) w_1083 w_1085 w_s46 w_9 w_1086 (by decide +kernel) rfl ⟨(Nat.le_of_ble_eq_true rfl), (Nat.le_of_ble_eq_true rfl)⟩ 0 (ci := 8) rfl rfl [0, 1] [] rfl rfl rfl rfl (by decide) (Nat.le_of_ble_eq_true rfl) dX8_rope_7 ⟨(Nat.le_of_ble_eq_true rfl), (Nat.le_of_ble_eq_true rfl)⟩ rfl (fun r w1 H locs hQ V => ?_)
  rcases hQ with ⟨j_1, rfl, rfl, f_2, f_3⟩ | ⟨rfl, rfl, f_4⟩
  · have V : gW D T A s [(o, .inr (8, [.int (nI 0), .ref g1, .ref g2, .ref g3, .ref g4, .int (nI tp), .int w6, .int w7, .int w8, .int w9, .int w10, .int w11, .int w12, .int w13, .int w14, .ref g15, .int w16, .ref g17, .int w18, .int w19, .ref g20, .int w21, .ref g22, .ref g23, .ref g24, .int w25, .int w26, .int w27, .ref g28, .ref g29, .int w30, .ref g31, .ref g32, .ref g33])), (g1, .inl (T 0, 282, .inl fa))] H locs := V
    show W p l e _ s m args below meth c H locs _ _ _ (F0 m 10 ls [.int (nI 1)])
    rw [f_2] at hl
    refine lv_if_eq (tgt := 21) hx hb dX8_rope_10 (by decide) (fun c => absurd (show (nI 1) = 0 from c) (by decide +kernel)) (fun _ => ?_)
    refine lv_aload_n hx hb dX8_rope_13 rfl (lv_at hl 0 rfl) ?_
    refine lv_iload_n hx hb dX8_rope_14 rfl (lv_at hl 2 rfl) ?_
    refine g_callV (wr := []) (nA := 1) hC V hl.1 (m_isSmith_f l D T n o to (nI 0) g1 g2 g3 g4 tp w6 w7 w8 w9 w10 w11 w12 w13 w14 g15 w16 g17 w18 w19 g20 w21 g22 g23 g24 w25 w26 w27 g28 g29 w30 g31 g32 g33 fa h_a) w_1083 w_1085 w_s46 w_9 w_1086 (by decide +kernel) rfl ⟨(Nat.le_of_ble_eq_true rfl), (Nat.le_of_ble_eq_true rfl)⟩ 0 (ci := 8) rfl rfl [0, 1] [] rfl rfl rfl rfl (by decide) (Nat.le_of_ble_eq_true rfl) dX8_rope_15 ⟨(Nat.le_of_ble_eq_true rfl), (Nat.le_of_ble_eq_true rfl)⟩ rfl (fun r w1 H locs hQ V => ?_)
    rcases hQ with ⟨j_5, rfl, rfl, f_6, f_7⟩ | ⟨rfl, rfl, f_8⟩
    · have V : gW D T A s [(o, .inr (8, [.int (nI 0), .ref g1, .ref g2, .ref g3, .ref g4, .int (nI tp), .int w6, .int w7, .int w8, .int w9, .int w10, .int w11, .int w12, .int w13, .int w14, .ref g15, .int w16, .ref g17, .int w18, .int w19, .ref g20, .int w21, .ref g22, .ref g23, .ref g24, .int w25, .int w26, .int w27, .ref g28, .ref g29, .int w30, .ref g31, .ref g32, .ref g33])), (g1, .inl (T 0, 282, .inl fa))] H locs := V
      show W p l e _ s m args below meth c H locs _ _ _ (F0 m 18 ls [.int (nI 1)])
      rw [f_6] at hl
      refine lv_if_ne (tgt := 24) hx hb dX8_rope_18 (by decide) (fun _ => ?_) (fun c => absurd (show (nI 1) = 0 from c) (by decide +kernel))
      refine lv_aload_n hx hb dX8_rope_24 rfl (lv_at hl 0 rfl) ?_
      refine g_get hC V (ci := 8) uwX8 0 rfl rfl 1 (by decide) w_913 rfl rfl dX8_rope_25 ?_
      refine lv_bipush (v := (nI 84)) hx hb dX8_rope_28 (by decide +kernel) ?_
      refine lv_iload_n hx hb dX8_rope_30 rfl (lv_at hl 1 rfl) ?_
      refine lv_iadd hx hb dX8_rope_31 ?_
      refine g_vi (y := (nI (84 + j_1))) (nI_add _ _) ?_
      obtain ⟨j_9, hj_9, ej_9⟩ := bd_ex (mi_to h_a (i := j_1) (by omega))
      refine g_iald hC V 1 rfl (vp_in_nI (by omega) (by omega)) (v := (nI j_9)) (by rw [nI_clamp (by omega)]; exact ej_9) dX8_rope_32 ?_
      refine lv_istore_n (lv' := [(3, .int (nI j_9)), (0, .ref o), (1, .int (nI j_1)), (2, .int (nI j_5))]) hx hb dX8_rope_33 rfl hl (by decide) rfl (fun ls hl => ?_)
      refine lv_aload_n hx hb dX8_rope_34 rfl (lv_at hl 1 rfl) ?_
      refine g_get hC V (ci := 8) uwX8 0 rfl rfl 1 (by decide) w_913 rfl rfl dX8_rope_35 ?_
      refine lv_bipush (v := (nI 84)) hx hb dX8_rope_38 (by decide +kernel) ?_
      refine lv_iload_n hx hb dX8_rope_40 rfl (lv_at hl 2 rfl) ?_
      refine lv_iadd hx hb dX8_rope_41 ?_
      refine g_vi (y := (nI (84 + j_1))) (nI_add _ _) ?_
      refine lv_iload_n hx hb dX8_rope_42 rfl (lv_at hl 3 rfl) ?_
      obtain ⟨f_10, ef_10⟩ : ∃ x, x = upd fa (84 + j_1) (nI j_5) := ⟨_, rfl⟩
      have hf_10 : MS n fa f_10 := by rw [ef_10]; exact ms_st (by assumption) (by omega) (by omega) (by intros; first | (exfalso; omega) | exact bd_nI (by omega) | exact bd_le ‹bd (nI j_5) _› (by omega) | assumption) (by intros; first | (exfalso; omega) | exact bd_nI (by omega) | exact bd_le ‹bd (nI j_5) _› (by omega) | assumption) (by intros; first | (exfalso; omega) | exact bd_nI (by omega) | exact bd_le ‹bd (nI j_5) _› (by omega) | assumption) (by intros; first | (exfalso; omega) | exact bd_nI (by omega) | exact bd_le ‹bd (nI j_5) _› (by omega) | assumption) (by intros; first | (exfalso; omega) | exact bd_nI (by omega) | exact bd_le ‹bd (nI j_5) _› (by omega) | assumption) (by intros; first | (exfalso; omega) | exact bd_nI (by omega) | exact bd_le ‹bd (nI j_5) _› (by omega) | assumption) (by intros; first | (exfalso; omega) | exact bd_nI (by omega) | exact bd_le ‹bd (nI j_5) _› (by omega) | assumption)
      refine g_iast hC V 1 rfl (vp_in_nI (by omega) (by omega)) (f' := f_10) (by rw [nI_clamp (by omega)]; exact ef_10.symm) (ws' := [(o, .inr (8, [.int (nI 0), .ref g1, .ref g2, .ref g3, .ref g4, .int (nI tp), .int w6, .int w7, .int w8, .int w9, .int w10, .int w11, .int w12, .int w13, .int w14, .ref g15, .int w16, .ref g17, .int w18, .int w19, .ref g20, .int w21, .ref g22, .ref g23, .ref g24, .int w25, .int w26, .int w27, .ref g28, .ref g29, .int w30, .ref g31, .ref g32, .ref g33])), (g1, .inl (T 0, 282, .inl f_10))]) rfl dX8_rope_43 (fun H locs V => ?_)
      refine lv_iload_n hx hb dX8_rope_44 rfl (lv_at hl 0 rfl) ?_
      exact g_iret (Qr := (q_m_rope_f T n o i to w0 g1 g2 g3 g4 tp w6 w7 w8 w9 w10 w11 w12 w13 w14 g15 w16 g17 w18 w19 g20 w21 g22 g23 g24 w25 w26 w27 g28 g29 w30 g31 g32 g33 fa)) hC V ⟨(Nat.le_of_ble_eq_true rfl), (Nat.le_of_ble_eq_true rfl)⟩ ⟨(nI j_9), f_10, rfl, rfl, hf_10, (ej_9.symm.trans (rp_y (f := fa) hn10 f_2 f_3 f_6 f_7).1), (Eq.trans ef_10 (rp_y (f := fa) hn10 f_2 f_3 f_6 f_7).2)⟩ dX8_rope_45
    · have V : gW D T A s [(o, .inr (8, [.int (nI 0), .ref g1, .ref g2, .ref g3, .ref g4, .int (nI tp), .int w6, .int w7, .int w8, .int w9, .int w10, .int w11, .int w12, .int w13, .int w14, .ref g15, .int w16, .ref g17, .int w18, .int w19, .ref g20, .int w21, .ref g22, .ref g23, .ref g24, .int w25, .int w26, .int w27, .ref g28, .ref g29, .int w30, .ref g31, .ref g32, .ref g33])), (g1, .inl (T 0, 282, .inl fa))] H locs := V
      show W p l e _ s m args below meth c H locs _ _ _ (F0 m 18 ls [.int (nI 0)])
      refine lv_if_ne (tgt := 24) hx hb dX8_rope_18 (by decide) (fun c => absurd (show (nI 0) = 0 by decide +kernel) c) (fun _ => ?_)
      refine lv_bipush (v := (-2)) hx hb dX8_rope_21 (by decide +kernel) ?_
      exact g_iret (Qr := (q_m_rope_f T n o i to w0 g1 g2 g3 g4 tp w6 w7 w8 w9 w10 w11 w12 w13 w14 g15 w16 g17 w18 w19 g20 w21 g22 g23 g24 w25 w26 w27 g28 g29 w30 g31 g32 g33 fa)) hC V ⟨(Nat.le_of_ble_eq_true rfl), (Nat.le_of_ble_eq_true rfl)⟩ ⟨(-2), fa, rfl, rfl, ms0, (rp_2 (f := fa) (i := i) f_8).1, (rp_2 (f := fa) (i := i) f_8).2⟩ dX8_rope_23
  · have V : gW D T A s [(o, .inr (8, [.int (nI 0), .ref g1, .ref g2, .ref g3, .ref g4, .int (nI tp), .int w6, .int w7, .int w8, .int w9, .int w10, .int w11, .int w12, .int w13, .int w14, .ref g15, .int w16, .ref g17, .int w18, .int w19, .ref g20, .int w21, .ref g22, .ref g23, .ref g24, .int w25, .int w26, .int w27, .ref g28, .ref g29, .int w30, .ref g31, .ref g32, .ref g33])), (g1, .inl (T 0, 282, .inl fa))] H locs := V
    show W p l e _ s m args below meth c H locs _ _ _ (F0 m 10 ls [.int (nI 0)])
    refine lv_if_eq (tgt := 21) hx hb dX8_rope_10 (by decide) (fun _ => ?_) (fun c => absurd (show (nI 0) = 0 by decide +kernel) c)
    refine lv_bipush (v := (-2)) hx hb dX8_rope_21 (by decide +kernel) ?_
    exact g_iret (Qr := (q_m_rope_f T n o i to w0 g1 g2 g3 g4 tp w6 w7 w8 w9 w10 w11 w12 w13 w14 g15 w16 g17 w18 w19 g20 w21 g22 g23 g24 w25 w26 w27 g28 g29 w30 g31 g32 g33 fa)) hC V ⟨(Nat.le_of_ble_eq_true rfl), (Nat.le_of_ble_eq_true rfl)⟩ ⟨(-2), fa, rfl, rfl, ms0, (rp_1 (f := fa) (to := to) f_4).1, (rp_1 (f := fa) (to := to) f_4).2⟩ dX8_rope_23

def q_m_arm_f (T : Nat → ClassId) (n : Nat) (o : Nat) (i : Int32) (bl : Int32) (w0 : Int32) (g1 : Nat) (g2 : Nat) (g3 : Nat) (g4 : Nat) (tp : Nat) (w6 : Int32) (w7 : Int32) (w8 : Int32) (w9 : Int32) (w10 : Int32) (w11 : Int32) (w12 : Int32) (w13 : Int32) (w14 : Int32) (g15 : Nat) (w16 : Int32) (g17 : Nat) (w18 : Int32) (w19 : Int32) (g20 : Nat) (w21 : Int32) (g22 : Nat) (g23 : Nat) (g24 : Nat) (w25 : Int32) (w26 : Int32) (w27 : Int32) (g28 : Nat) (g29 : Nat) (w30 : Int32) (g31 : Nat) (g32 : Nat) (g33 : Nat) (fa : Nat → Int32) : Option Value → va_W → Prop := fun rr ww => (∃ (z : Int32) (ga : Nat → Int32), rr = some (.int z) ∧ ww = [(o, .inr (8, [.int (nI 0), .ref g1, .ref g2, .ref g3, .ref g4, .int (nI tp), .int w6, .int w7, .int w8, .int w9, .int w10, .int w11, .int w12, .int w13, .int w14, .ref g15, .int w16, .ref g17, .int w18, .int w19, .ref g20, .int w21, .ref g22, .ref g23, .ref g24, .int w25, .int w26, .int w27, .ref g28, .ref g29, .int w30, .ref g31, .ref g32, .ref g33])), (g1, .inl (T 0, 282, .inl ga))] ∧ MS n fa ga ∧ z = armA n fa i bl ∧ ga = armF n fa i bl)
set_option maxHeartbeats 4000000 in
set_option maxRecDepth 100000 in
theorem m_arm_f (l : Launch) (D : va_G) (T : Nat → ClassId) (n : Nat) (o : Nat) (i : Int32) (bl : Int32) (w0 : Int32) (g1 : Nat) (g2 : Nat) (g3 : Nat) (g4 : Nat) (tp : Nat) (w6 : Int32) (w7 : Int32) (w8 : Int32) (w9 : Int32) (w10 : Int32) (w11 : Int32) (w12 : Int32) (w13 : Int32) (w14 : Int32) (g15 : Nat) (w16 : Int32) (g17 : Nat) (w18 : Int32) (w19 : Int32) (g20 : Nat) (w21 : Int32) (g22 : Nat) (g23 : Nat) (g24 : Nat) (w25 : Int32) (w26 : Int32) (w27 : Int32) (g28 : Nat) (g29 : Nat) (w30 : Int32) (g31 : Nat) (g32 : Nat) (g33 : Nat) (fa : Nat → Int32) (h_a : MI n fa) : Ct l yX8_arm cX8_arm 4 (some .int) 2 0 0 D T [.ref o, .int i, .int bl] [(o, .inr (8, [.int w0, .ref g1, .ref g2, .ref g3, .ref g4, .int (nI tp), .int w6, .int w7, .int w8, .int w9, .int w10, .int w11, .int w12, .int w13, .int w14, .ref g15, .int w16, .ref g17, .int w18, .int w19, .ref g20, .int w21, .ref g22, .ref g23, .ref g24, .int w25, .int w26, .int w27, .ref g28, .ref g29, .int w30, .ref g31, .ref g32, .ref g33])), (g1, .inl (T 0, 282, .inl fa))] (q_m_arm_f T n o i bl w0 g1 g2 g3 g4 tp w6 w7 w8 w9 w10 w11 w12 w13 w14 g15 w16 g17 w18 w19 g20 w21 g22 g23 g24 w25 w26 w27 g28 g29 w30 g31 g32 g33 fa) := by
  refine Ct.of (cc := cX8_arm) (maxL := 4) (ret := (some .int)) (by decide) (Nat.le_of_ble_eq_true rfl) ?_
  intro p e s m args below meth c A ls hC hnm V hl
  obtain ⟨hx, hb, hr, hml, hown, hts, hlocks⟩ := id hC
  generalize hH : s.heap = H at V ⊢
  clear hH
  have hl : lv_has ls 4 [(0, .ref o), (1, .int i), (2, .int bl)] := hl
  generalize hlo : ([] : List Loc) = locs at V ⊢
  clear hlo
  have ms0 := ms_rf h_a
  have hn10 := h_a.1
  refine lv_aload_n hx hb dX8_arm_0 rfl (lv_at hl 0 rfl) ?_
  refine lv_iconst (v := (nI 0)) hx hb dX8_arm_1 (by decide +kernel) ?_
  refine g_put hC V (ci := 8) uwX8 tyX8 tyX8_ok nmX8 0 rfl rfl 0 (by decide) w_912 rfl rfl rfl rfl (Nat.le_of_ble_eq_true rfl) (ws' := [(o, .inr (8, [.int (nI 0), .ref g1, .ref g2, .ref g3, .ref g4, .int (nI tp), .int w6, .int w7, .int w8, .int w9, .int w10, .int w11, .int w12, .int w13, .int w14, .ref g15, .int w16, .ref g17, .int w18, .int w19, .ref g20, .int w21, .ref g22, .ref g23, .ref g24, .int w25, .int w26, .int w27, .ref g28, .ref g29, .int w30, .ref g31, .ref g32, .ref g33])), (g1, .inl (T 0, 282, .inl fa))]) rfl dX8_arm_2 (fun H locs V => ?_)
  refine lv_aload_n hx hb dX8_arm_5 rfl (lv_at hl 0 rfl) ?_
  refine lv_iload_n hx hb dX8_arm_6 rfl (lv_at hl 1 rfl) ?_
  refine g_callV (wr := []) (nA := 1) hC V hl.1 (m_isSmith_f l D T n o i (nI 0) g1 g2 g3 g4 tp w6 w7 w8 w9 w10 w11 w12 w13 w14 g15 w16 g17 w18 w19 g20 w21 g22 g23 g24 w25 w26 w27 g28 g29 w30 g31 g32 g33 fa h_a) w_1083 w_1085 w_s46 w_9 w_1086 (by decide +kernel) rfl ⟨(Nat.le_of_ble_eq_true rfl), (Nat.le_of_ble_eq_true rfl)⟩ 0 (ci := 8) rfl rfl [0, 1] [] rfl rfl rfl rfl (by decide) (Nat.le_of_ble_eq_true rfl) dX8_arm_7 ⟨(Nat.le_of_ble_eq_true rfl), (Nat.le_of_ble_eq_true rfl)⟩ rfl (fun r w1 H locs hQ V => ?_)
  rcases hQ with ⟨j_1, rfl, rfl, f_2, f_3⟩ | ⟨rfl, rfl, f_4⟩
  · have V : gW D T A s [(o, .inr (8, [.int (nI 0), .ref g1, .ref g2, .ref g3, .ref g4, .int (nI tp), .int w6, .int w7, .int w8, .int w9, .int w10, .int w11, .int w12, .int w13, .int w14, .ref g15, .int w16, .ref g17, .int w18, .int w19, .ref g20, .int w21, .ref g22, .ref g23, .ref g24, .int w25, .int w26, .int w27, .ref g28, .ref g29, .int w30, .ref g31, .ref g32, .ref g33])), (g1, .inl (T 0, 282, .inl fa))] H locs := V
    show W p l e _ s m args below meth c H locs _ _ _ (F0 m 10 ls [.int (nI 1)])
    rw [f_2] at hl
    refine lv_if_ne (tgt := 16) hx hb dX8_arm_10 (by decide) (fun _ => ?_) (fun c => absurd (show (nI 1) = 0 from c) (by decide +kernel))
    refine lv_iload_n hx hb dX8_arm_16 rfl (lv_at hl 2 rfl) ?_
    refine lv_i2l (v := bl.toInt64) hx hb dX8_arm_17 rfl ?_
    refine lv_lconst (v := (nI 0).toInt64) hx hb dX8_arm_18 (by decide +kernel) ?_
    refine lv_ldc2 (v := (60)) hx hb hown (hts _ w_1108) dX8_arm_19 ?_
    refine g_vl (y := (nI 60).toInt64) (by decide +kernel) ?_
    refine g_callSU (nA := 3) hC V hl.1 (m_within l D T bl (nI 0) (nI 60)) w_1023 w_1024 w_9 w_1025 (by decide +kernel) rfl ⟨(Nat.le_of_ble_eq_true rfl), (Nat.le_of_ble_eq_true rfl)⟩ [] rfl rfl (Nat.le_of_ble_eq_true rfl) dX8_arm_22 ⟨(Nat.le_of_ble_eq_true rfl), (Nat.le_of_ble_eq_true rfl)⟩ rfl (fun r w1 H locs hQ V => ?_)
    rcases hQ with ⟨rfl, rfl, f_5, f_6⟩ | ⟨rfl, rfl, f_7⟩
    · have V : gW D T A s [(o, .inr (8, [.int (nI 0), .ref g1, .ref g2, .ref g3, .ref g4, .int (nI tp), .int w6, .int w7, .int w8, .int w9, .int w10, .int w11, .int w12, .int w13, .int w14, .ref g15, .int w16, .ref g17, .int w18, .int w19, .ref g20, .int w21, .ref g22, .ref g23, .ref g24, .int w25, .int w26, .int w27, .ref g28, .ref g29, .int w30, .ref g31, .ref g32, .ref g33])), (g1, .inl (T 0, 282, .inl fa))] H locs := V _ [] rfl rfl rfl (by decide +kernel) rfl
      show W p l e _ s m args below meth c H locs _ _ _ (F0 m 25 ls [.int (nI 1)])
      obtain ⟨jb, hjb1, hjb2, ejb⟩ := g_rng (by first | decide | omega) (by first | decide | omega) f_5 f_6
      rw [ejb] at hl
      refine lv_if_ne (tgt := 31) hx hb dX8_arm_25 (by decide) (fun _ => ?_) (fun c => absurd (show (nI 1) = 0 from c) (by decide +kernel))
      refine lv_aload_n hx hb dX8_arm_31 rfl (lv_at hl 0 rfl) ?_
      refine g_get hC V (ci := 8) uwX8 0 rfl rfl 1 (by decide) w_913 rfl rfl dX8_arm_32 ?_
      refine lv_iconst (v := (nI 4)) hx hb dX8_arm_35 (by decide +kernel) ?_
      refine lv_iload_n hx hb dX8_arm_36 rfl (lv_at hl 1 rfl) ?_
      refine lv_iadd hx hb dX8_arm_37 ?_
      refine g_vi (y := (nI (4 + j_1))) (nI_add _ _) ?_
      obtain ⟨j_8, hj_8, ej_8⟩ := bd_ex (mi_blast h_a (i := j_1) (by omega))
      refine g_iald hC V 1 rfl (vp_in_nI (by omega) (by omega)) (v := (nI j_8)) (by rw [nI_clamp (by omega)]; exact ej_8) dX8_arm_38 ?_
      refine lv_istore_n (lv' := [(3, .int (nI j_8)), (0, .ref o), (1, .int (nI j_1)), (2, .int (nI jb))]) hx hb dX8_arm_39 rfl hl (by decide) rfl (fun ls hl => ?_)
      refine lv_aload_n hx hb dX8_arm_40 rfl (lv_at hl 1 rfl) ?_
      refine g_get hC V (ci := 8) uwX8 0 rfl rfl 1 (by decide) w_913 rfl rfl dX8_arm_41 ?_
      refine lv_iconst (v := (nI 4)) hx hb dX8_arm_44 (by decide +kernel) ?_
      refine lv_iload_n hx hb dX8_arm_45 rfl (lv_at hl 2 rfl) ?_
      refine lv_iadd hx hb dX8_arm_46 ?_
      refine g_vi (y := (nI (4 + j_1))) (nI_add _ _) ?_
      refine lv_iload_n hx hb dX8_arm_47 rfl (lv_at hl 3 rfl) ?_
      obtain ⟨f_9, ef_9⟩ : ∃ x, x = upd fa (4 + j_1) (nI jb) := ⟨_, rfl⟩
      have hf_9 : MS n fa f_9 := by rw [ef_9]; exact ms_st (by assumption) (by omega) (by omega) (by intros; first | (exfalso; omega) | exact bd_nI (by omega) | exact bd_le ‹bd (nI jb) _› (by omega) | assumption) (by intros; first | (exfalso; omega) | exact bd_nI (by omega) | exact bd_le ‹bd (nI jb) _› (by omega) | assumption) (by intros; first | (exfalso; omega) | exact bd_nI (by omega) | exact bd_le ‹bd (nI jb) _› (by omega) | assumption) (by intros; first | (exfalso; omega) | exact bd_nI (by omega) | exact bd_le ‹bd (nI jb) _› (by omega) | assumption) (by intros; first | (exfalso; omega) | exact bd_nI (by omega) | exact bd_le ‹bd (nI jb) _› (by omega) | assumption) (by intros; first | (exfalso; omega) | exact bd_nI (by omega) | exact bd_le ‹bd (nI jb) _› (by omega) | assumption) (by intros; first | (exfalso; omega) | exact bd_nI (by omega) | exact bd_le ‹bd (nI jb) _› (by omega) | assumption)
      refine g_iast hC V 1 rfl (vp_in_nI (by omega) (by omega)) (f' := f_9) (by rw [nI_clamp (by omega)]; exact ef_9.symm) (ws' := [(o, .inr (8, [.int (nI 0), .ref g1, .ref g2, .ref g3, .ref g4, .int (nI tp), .int w6, .int w7, .int w8, .int w9, .int w10, .int w11, .int w12, .int w13, .int w14, .ref g15, .int w16, .ref g17, .int w18, .int w19, .ref g20, .int w21, .ref g22, .ref g23, .ref g24, .int w25, .int w26, .int w27, .ref g28, .ref g29, .int w30, .ref g31, .ref g32, .ref g33])), (g1, .inl (T 0, 282, .inl f_9))]) rfl dX8_arm_48 (fun H locs V => ?_)
      refine lv_iload_n hx hb dX8_arm_49 rfl (lv_at hl 0 rfl) ?_
      exact g_iret (Qr := (q_m_arm_f T n o i bl w0 g1 g2 g3 g4 tp w6 w7 w8 w9 w10 w11 w12 w13 w14 g15 w16 g17 w18 w19 g20 w21 g22 g23 g24 w25 w26 w27 g28 g29 w30 g31 g32 g33 fa)) hC V ⟨(Nat.le_of_ble_eq_true rfl), (Nat.le_of_ble_eq_true rfl)⟩ ⟨(nI j_8), f_9, rfl, rfl, hf_9, (ej_8.symm.trans (ar_y (f := fa) hn10 f_2 f_3 f_5 f_6).1), (by rw [ef_9, ← ejb]; exact (ar_y (f := fa) hn10 f_2 f_3 f_5 f_6).2)⟩ dX8_arm_50
    · have V : gW D T A s [(o, .inr (8, [.int (nI 0), .ref g1, .ref g2, .ref g3, .ref g4, .int (nI tp), .int w6, .int w7, .int w8, .int w9, .int w10, .int w11, .int w12, .int w13, .int w14, .ref g15, .int w16, .ref g17, .int w18, .int w19, .ref g20, .int w21, .ref g22, .ref g23, .ref g24, .int w25, .int w26, .int w27, .ref g28, .ref g29, .int w30, .ref g31, .ref g32, .ref g33])), (g1, .inl (T 0, 282, .inl fa))] H locs := V _ [] rfl rfl rfl (by decide +kernel) rfl
      show W p l e _ s m args below meth c H locs _ _ _ (F0 m 25 ls [.int (nI 0)])
      refine lv_if_ne (tgt := 31) hx hb dX8_arm_25 (by decide) (fun c => absurd (show (nI 0) = 0 by decide +kernel) c) (fun _ => ?_)
      refine lv_bipush (v := (-3)) hx hb dX8_arm_28 (by decide +kernel) ?_
      exact g_iret (Qr := (q_m_arm_f T n o i bl w0 g1 g2 g3 g4 tp w6 w7 w8 w9 w10 w11 w12 w13 w14 g15 w16 g17 w18 w19 g20 w21 g22 g23 g24 w25 w26 w27 g28 g29 w30 g31 g32 g33 fa)) hC V ⟨(Nat.le_of_ble_eq_true rfl), (Nat.le_of_ble_eq_true rfl)⟩ ⟨(-3), fa, rfl, rfl, ms0, (ar_2 (f := fa) hn10 f_2 f_3 f_7).1, (ar_2 (f := fa) hn10 f_2 f_3 f_7).2⟩ dX8_arm_30
  · have V : gW D T A s [(o, .inr (8, [.int (nI 0), .ref g1, .ref g2, .ref g3, .ref g4, .int (nI tp), .int w6, .int w7, .int w8, .int w9, .int w10, .int w11, .int w12, .int w13, .int w14, .ref g15, .int w16, .ref g17, .int w18, .int w19, .ref g20, .int w21, .ref g22, .ref g23, .ref g24, .int w25, .int w26, .int w27, .ref g28, .ref g29, .int w30, .ref g31, .ref g32, .ref g33])), (g1, .inl (T 0, 282, .inl fa))] H locs := V
    show W p l e _ s m args below meth c H locs _ _ _ (F0 m 10 ls [.int (nI 0)])
    refine lv_if_ne (tgt := 16) hx hb dX8_arm_10 (by decide) (fun c => absurd (show (nI 0) = 0 by decide +kernel) c) (fun _ => ?_)
    refine lv_bipush (v := (-2)) hx hb dX8_arm_13 (by decide +kernel) ?_
    exact g_iret (Qr := (q_m_arm_f T n o i bl w0 g1 g2 g3 g4 tp w6 w7 w8 w9 w10 w11 w12 w13 w14 g15 w16 g17 w18 w19 g20 w21 g22 g23 g24 w25 w26 w27 g28 g29 w30 g31 g32 g33 fa)) hC V ⟨(Nat.le_of_ble_eq_true rfl), (Nat.le_of_ble_eq_true rfl)⟩ ⟨(-2), fa, rfl, rfl, ms0, (ar_1 (f := fa) (b := bl) f_4).1, (ar_1 (f := fa) (b := bl) f_4).2⟩ dX8_arm_15

def q_m_piece_f (T : Nat → ClassId) (n : Nat) (o : Nat) (i : Int32) (st : Int32) (w0 : Int32) (g1 : Nat) (g2 : Nat) (g3 : Nat) (g4 : Nat) (tp : Nat) (w6 : Int32) (w7 : Int32) (w8 : Int32) (w9 : Int32) (w10 : Int32) (w11 : Int32) (w12 : Int32) (w13 : Int32) (w14 : Int32) (g15 : Nat) (w16 : Int32) (g17 : Nat) (w18 : Int32) (w19 : Int32) (g20 : Nat) (w21 : Int32) (g22 : Nat) (g23 : Nat) (g24 : Nat) (w25 : Int32) (w26 : Int32) (w27 : Int32) (g28 : Nat) (g29 : Nat) (w30 : Int32) (g31 : Nat) (g32 : Nat) (g33 : Nat) (fa : Nat → Int32) : Option Value → va_W → Prop := fun rr ww => (∃ (z : Int32) (ga : Nat → Int32), rr = some (.int z) ∧ ww = [(o, .inr (8, [.int (nI 0), .ref g1, .ref g2, .ref g3, .ref g4, .int (nI tp), .int w6, .int w7, .int w8, .int w9, .int w10, .int w11, .int w12, .int w13, .int w14, .ref g15, .int w16, .ref g17, .int w18, .int w19, .ref g20, .int w21, .ref g22, .ref g23, .ref g24, .int w25, .int w26, .int w27, .ref g28, .ref g29, .int w30, .ref g31, .ref g32, .ref g33])), (g1, .inl (T 0, 282, .inl ga))] ∧ MS n fa ga ∧ z = pieA n fa i st ∧ ga = pieF n fa i st)
set_option maxHeartbeats 4000000 in
set_option maxRecDepth 100000 in
theorem m_piece_f (l : Launch) (D : va_G) (T : Nat → ClassId) (n : Nat) (o : Nat) (i : Int32) (st : Int32) (w0 : Int32) (g1 : Nat) (g2 : Nat) (g3 : Nat) (g4 : Nat) (tp : Nat) (w6 : Int32) (w7 : Int32) (w8 : Int32) (w9 : Int32) (w10 : Int32) (w11 : Int32) (w12 : Int32) (w13 : Int32) (w14 : Int32) (g15 : Nat) (w16 : Int32) (g17 : Nat) (w18 : Int32) (w19 : Int32) (g20 : Nat) (w21 : Int32) (g22 : Nat) (g23 : Nat) (g24 : Nat) (w25 : Int32) (w26 : Int32) (w27 : Int32) (g28 : Nat) (g29 : Nat) (w30 : Int32) (g31 : Nat) (g32 : Nat) (g33 : Nat) (fa : Nat → Int32) (h_a : MI n fa) : Ct l yX8_piece cX8_piece 4 (some .int) 2 0 0 D T [.ref o, .int i, .int st] [(o, .inr (8, [.int w0, .ref g1, .ref g2, .ref g3, .ref g4, .int (nI tp), .int w6, .int w7, .int w8, .int w9, .int w10, .int w11, .int w12, .int w13, .int w14, .ref g15, .int w16, .ref g17, .int w18, .int w19, .ref g20, .int w21, .ref g22, .ref g23, .ref g24, .int w25, .int w26, .int w27, .ref g28, .ref g29, .int w30, .ref g31, .ref g32, .ref g33])), (g1, .inl (T 0, 282, .inl fa))] (q_m_piece_f T n o i st w0 g1 g2 g3 g4 tp w6 w7 w8 w9 w10 w11 w12 w13 w14 g15 w16 g17 w18 w19 g20 w21 g22 g23 g24 w25 w26 w27 g28 g29 w30 g31 g32 g33 fa) := by
  refine Ct.of (cc := cX8_piece) (maxL := 4) (ret := (some .int)) (by decide) (Nat.le_of_ble_eq_true rfl) ?_
  intro p e s m args below meth c A ls hC hnm V hl
  obtain ⟨hx, hb, hr, hml, hown, hts, hlocks⟩ := id hC
  generalize hH : s.heap = H at V ⊢
  clear hH
  have hl : lv_has ls 4 [(0, .ref o), (1, .int i), (2, .int st)] := hl
  generalize hlo : ([] : List Loc) = locs at V ⊢
  clear hlo
  have ms0 := ms_rf h_a
  have hn10 := h_a.1
  refine lv_aload_n hx hb dX8_piece_0 rfl (lv_at hl 0 rfl) ?_
  refine lv_iconst (v := (nI 0)) hx hb dX8_piece_1 (by decide +kernel) ?_
  refine g_put hC V (ci := 8) uwX8 tyX8 tyX8_ok nmX8 0 rfl rfl 0 (by decide) w_912 rfl rfl rfl rfl (Nat.le_of_ble_eq_true rfl) (ws' := [(o, .inr (8, [.int (nI 0), .ref g1, .ref g2, .ref g3, .ref g4, .int (nI tp), .int w6, .int w7, .int w8, .int w9, .int w10, .int w11, .int w12, .int w13, .int w14, .ref g15, .int w16, .ref g17, .int w18, .int w19, .ref g20, .int w21, .ref g22, .ref g23, .ref g24, .int w25, .int w26, .int w27, .ref g28, .ref g29, .int w30, .ref g31, .ref g32, .ref g33])), (g1, .inl (T 0, 282, .inl fa))]) rfl dX8_piece_2 (fun H locs V => ?_)
  refine lv_aload_n hx hb dX8_piece_5 rfl (lv_at hl 0 rfl) ?_
  refine lv_iload_n hx hb dX8_piece_6 rfl (lv_at hl 1 rfl) ?_
  refine g_callV (wr := []) (nA := 1) hC V hl.1 (m_isSmith_f l D T n o i (nI 0) g1 g2 g3 g4 tp w6 w7 w8 w9 w10 w11 w12 w13 w14 g15 w16 g17 w18 w19 g20 w21 g22 g23 g24 w25 w26 w27 g28 g29 w30 g31 g32 g33 fa h_a) w_1083 w_1085 w_s46 w_9 w_1086 (by decide +kernel) rfl ⟨(Nat.le_of_ble_eq_true rfl), (Nat.le_of_ble_eq_true rfl)⟩ 0 (ci := 8) rfl rfl [0, 1] [] rfl rfl rfl rfl (by decide) (Nat.le_of_ble_eq_true rfl) dX8_piece_7 ⟨(Nat.le_of_ble_eq_true rfl), (Nat.le_of_ble_eq_true rfl)⟩ rfl (fun r w1 H locs hQ V => ?_)
  rcases hQ with ⟨j_1, rfl, rfl, f_2, f_3⟩ | ⟨rfl, rfl, f_4⟩
  · have V : gW D T A s [(o, .inr (8, [.int (nI 0), .ref g1, .ref g2, .ref g3, .ref g4, .int (nI tp), .int w6, .int w7, .int w8, .int w9, .int w10, .int w11, .int w12, .int w13, .int w14, .ref g15, .int w16, .ref g17, .int w18, .int w19, .ref g20, .int w21, .ref g22, .ref g23, .ref g24, .int w25, .int w26, .int w27, .ref g28, .ref g29, .int w30, .ref g31, .ref g32, .ref g33])), (g1, .inl (T 0, 282, .inl fa))] H locs := V
    show W p l e _ s m args below meth c H locs _ _ _ (F0 m 10 ls [.int (nI 1)])
    rw [f_2] at hl
    refine lv_if_ne (tgt := 16) hx hb dX8_piece_10 (by decide) (fun _ => ?_) (fun c => absurd (show (nI 1) = 0 from c) (by decide +kernel))
    refine lv_iload_n hx hb dX8_piece_16 rfl (lv_at hl 2 rfl) ?_
    refine lv_i2l (v := st.toInt64) hx hb dX8_piece_17 rfl ?_
    refine lv_lconst (v := (nI 0).toInt64) hx hb dX8_piece_18 (by decide +kernel) ?_
    refine lv_ldc2 (v := (20)) hx hb hown (hts _ w_1113) dX8_piece_19 ?_
    refine g_vl (y := (nI 20).toInt64) (by decide +kernel) ?_
    refine g_callSU (nA := 3) hC V hl.1 (m_within l D T st (nI 0) (nI 20)) w_1023 w_1024 w_9 w_1025 (by decide +kernel) rfl ⟨(Nat.le_of_ble_eq_true rfl), (Nat.le_of_ble_eq_true rfl)⟩ [] rfl rfl (Nat.le_of_ble_eq_true rfl) dX8_piece_22 ⟨(Nat.le_of_ble_eq_true rfl), (Nat.le_of_ble_eq_true rfl)⟩ rfl (fun r w1 H locs hQ V => ?_)
    rcases hQ with ⟨rfl, rfl, f_5, f_6⟩ | ⟨rfl, rfl, f_7⟩
    · have V : gW D T A s [(o, .inr (8, [.int (nI 0), .ref g1, .ref g2, .ref g3, .ref g4, .int (nI tp), .int w6, .int w7, .int w8, .int w9, .int w10, .int w11, .int w12, .int w13, .int w14, .ref g15, .int w16, .ref g17, .int w18, .int w19, .ref g20, .int w21, .ref g22, .ref g23, .ref g24, .int w25, .int w26, .int w27, .ref g28, .ref g29, .int w30, .ref g31, .ref g32, .ref g33])), (g1, .inl (T 0, 282, .inl fa))] H locs := V _ [] rfl rfl rfl (by decide +kernel) rfl
      show W p l e _ s m args below meth c H locs _ _ _ (F0 m 25 ls [.int (nI 1)])
      obtain ⟨jb, hjb1, hjb2, ejb⟩ := g_rng (by first | decide | omega) (by first | decide | omega) f_5 f_6
      rw [ejb] at hl
      refine lv_if_ne (tgt := 31) hx hb dX8_piece_25 (by decide) (fun _ => ?_) (fun c => absurd (show (nI 1) = 0 from c) (by decide +kernel))
      refine lv_aload_n hx hb dX8_piece_31 rfl (lv_at hl 0 rfl) ?_
      refine g_get hC V (ci := 8) uwX8 0 rfl rfl 1 (by decide) w_913 rfl rfl dX8_piece_32 ?_
      refine lv_bipush (v := (nI 64)) hx hb dX8_piece_35 (by decide +kernel) ?_
      refine lv_iload_n hx hb dX8_piece_37 rfl (lv_at hl 1 rfl) ?_
      refine lv_iadd hx hb dX8_piece_38 ?_
      refine g_vi (y := (nI (64 + j_1))) (nI_add _ _) ?_
      obtain ⟨j_8, hj_8, ej_8⟩ := bd_ex (mi_has h_a (i := j_1) (by omega))
      refine g_iald hC V 1 rfl (vp_in_nI (by omega) (by omega)) (v := (nI j_8)) (by rw [nI_clamp (by omega)]; exact ej_8) dX8_piece_39 ?_
      refine lv_istore_n (lv' := [(3, .int (nI j_8)), (0, .ref o), (1, .int (nI j_1)), (2, .int (nI jb))]) hx hb dX8_piece_40 rfl hl (by decide) rfl (fun ls hl => ?_)
      refine lv_aload_n hx hb dX8_piece_41 rfl (lv_at hl 1 rfl) ?_
      refine g_get hC V (ci := 8) uwX8 0 rfl rfl 1 (by decide) w_913 rfl rfl dX8_piece_42 ?_
      refine lv_bipush (v := (nI 54)) hx hb dX8_piece_45 (by decide +kernel) ?_
      refine lv_iload_n hx hb dX8_piece_47 rfl (lv_at hl 2 rfl) ?_
      refine lv_iadd hx hb dX8_piece_48 ?_
      refine g_vi (y := (nI (54 + j_1))) (nI_add _ _) ?_
      refine lv_iload_n hx hb dX8_piece_49 rfl (lv_at hl 3 rfl) ?_
      obtain ⟨f_9, ef_9⟩ : ∃ x, x = upd fa (54 + j_1) (nI jb) := ⟨_, rfl⟩
      have hf_9 : MS n fa f_9 := by rw [ef_9]; exact ms_st (by assumption) (by omega) (by omega) (by intros; first | (exfalso; omega) | exact bd_nI (by omega) | exact bd_le ‹bd (nI jb) _› (by omega) | assumption) (by intros; first | (exfalso; omega) | exact bd_nI (by omega) | exact bd_le ‹bd (nI jb) _› (by omega) | assumption) (by intros; first | (exfalso; omega) | exact bd_nI (by omega) | exact bd_le ‹bd (nI jb) _› (by omega) | assumption) (by intros; first | (exfalso; omega) | exact bd_nI (by omega) | exact bd_le ‹bd (nI jb) _› (by omega) | assumption) (by intros; first | (exfalso; omega) | exact bd_nI (by omega) | exact bd_le ‹bd (nI jb) _› (by omega) | assumption) (by intros; first | (exfalso; omega) | exact bd_nI (by omega) | exact bd_le ‹bd (nI jb) _› (by omega) | assumption) (by intros; first | (exfalso; omega) | exact bd_nI (by omega) | exact bd_le ‹bd (nI jb) _› (by omega) | assumption)
      refine g_iast hC V 1 rfl (vp_in_nI (by omega) (by omega)) (f' := f_9) (by rw [nI_clamp (by omega)]; exact ef_9.symm) (ws' := [(o, .inr (8, [.int (nI 0), .ref g1, .ref g2, .ref g3, .ref g4, .int (nI tp), .int w6, .int w7, .int w8, .int w9, .int w10, .int w11, .int w12, .int w13, .int w14, .ref g15, .int w16, .ref g17, .int w18, .int w19, .ref g20, .int w21, .ref g22, .ref g23, .ref g24, .int w25, .int w26, .int w27, .ref g28, .ref g29, .int w30, .ref g31, .ref g32, .ref g33])), (g1, .inl (T 0, 282, .inl f_9))]) rfl dX8_piece_50 (fun H locs V => ?_)
      refine lv_aload_n hx hb dX8_piece_51 rfl (lv_at hl 1 rfl) ?_
      refine g_get hC V (ci := 8) uwX8 0 rfl rfl 1 (by decide) w_913 rfl rfl dX8_piece_52 ?_
      refine lv_bipush (v := (nI 64)) hx hb dX8_piece_55 (by decide +kernel) ?_
      refine lv_iload_n hx hb dX8_piece_57 rfl (lv_at hl 2 rfl) ?_
      refine lv_iadd hx hb dX8_piece_58 ?_
      refine g_vi (y := (nI (64 + j_1))) (nI_add _ _) ?_
      refine lv_iconst (v := (nI 0)) hx hb dX8_piece_59 (by decide +kernel) ?_
      obtain ⟨f_10, ef_10⟩ : ∃ x, x = upd f_9 (64 + j_1) (nI 0) := ⟨_, rfl⟩
      have hf_10 : MS n fa f_10 := by rw [ef_10]; exact ms_st (by assumption) (by omega) (by omega) (by intros; first | (exfalso; omega) | exact bd_nI (by omega) | exact bd_le ‹bd (nI 0) _› (by omega) | assumption) (by intros; first | (exfalso; omega) | exact bd_nI (by omega) | exact bd_le ‹bd (nI 0) _› (by omega) | assumption) (by intros; first | (exfalso; omega) | exact bd_nI (by omega) | exact bd_le ‹bd (nI 0) _› (by omega) | assumption) (by intros; first | (exfalso; omega) | exact bd_nI (by omega) | exact bd_le ‹bd (nI 0) _› (by omega) | assumption) (by intros; first | (exfalso; omega) | exact bd_nI (by omega) | exact bd_le ‹bd (nI 0) _› (by omega) | assumption) (by intros; first | (exfalso; omega) | exact bd_nI (by omega) | exact bd_le ‹bd (nI 0) _› (by omega) | assumption) (by intros; first | (exfalso; omega) | exact bd_nI (by omega) | exact bd_le ‹bd (nI 0) _› (by omega) | assumption)
      refine g_iast hC V 1 rfl (vp_in_nI (by omega) (by omega)) (f' := f_10) (by rw [nI_clamp (by omega)]; exact ef_10.symm) (ws' := [(o, .inr (8, [.int (nI 0), .ref g1, .ref g2, .ref g3, .ref g4, .int (nI tp), .int w6, .int w7, .int w8, .int w9, .int w10, .int w11, .int w12, .int w13, .int w14, .ref g15, .int w16, .ref g17, .int w18, .int w19, .ref g20, .int w21, .ref g22, .ref g23, .ref g24, .int w25, .int w26, .int w27, .ref g28, .ref g29, .int w30, .ref g31, .ref g32, .ref g33])), (g1, .inl (T 0, 282, .inl f_10))]) rfl dX8_piece_60 (fun H locs V => ?_)
      refine lv_iload_n hx hb dX8_piece_61 rfl (lv_at hl 0 rfl) ?_
      exact g_iret (Qr := (q_m_piece_f T n o i st w0 g1 g2 g3 g4 tp w6 w7 w8 w9 w10 w11 w12 w13 w14 g15 w16 g17 w18 w19 g20 w21 g22 g23 g24 w25 w26 w27 g28 g29 w30 g31 g32 g33 fa)) hC V ⟨(Nat.le_of_ble_eq_true rfl), (Nat.le_of_ble_eq_true rfl)⟩ ⟨(nI j_8), f_10, rfl, rfl, hf_10, (ej_8.symm.trans (pi_y (f := fa) hn10 f_2 f_3 f_5 f_6).1), (by rw [ef_10, ef_9, ← ejb]; exact (pi_y (f := fa) hn10 f_2 f_3 f_5 f_6).2)⟩ dX8_piece_62
    · have V : gW D T A s [(o, .inr (8, [.int (nI 0), .ref g1, .ref g2, .ref g3, .ref g4, .int (nI tp), .int w6, .int w7, .int w8, .int w9, .int w10, .int w11, .int w12, .int w13, .int w14, .ref g15, .int w16, .ref g17, .int w18, .int w19, .ref g20, .int w21, .ref g22, .ref g23, .ref g24, .int w25, .int w26, .int w27, .ref g28, .ref g29, .int w30, .ref g31, .ref g32, .ref g33])), (g1, .inl (T 0, 282, .inl fa))] H locs := V _ [] rfl rfl rfl (by decide +kernel) rfl
      show W p l e _ s m args below meth c H locs _ _ _ (F0 m 25 ls [.int (nI 0)])
      refine lv_if_ne (tgt := 31) hx hb dX8_piece_25 (by decide) (fun c => absurd (show (nI 0) = 0 by decide +kernel) c) (fun _ => ?_)
      refine lv_bipush (v := (-3)) hx hb dX8_piece_28 (by decide +kernel) ?_
      exact g_iret (Qr := (q_m_piece_f T n o i st w0 g1 g2 g3 g4 tp w6 w7 w8 w9 w10 w11 w12 w13 w14 g15 w16 g17 w18 w19 g20 w21 g22 g23 g24 w25 w26 w27 g28 g29 w30 g31 g32 g33 fa)) hC V ⟨(Nat.le_of_ble_eq_true rfl), (Nat.le_of_ble_eq_true rfl)⟩ ⟨(-3), fa, rfl, rfl, ms0, (pi_2 (f := fa) hn10 f_2 f_3 f_7).1, (pi_2 (f := fa) hn10 f_2 f_3 f_7).2⟩ dX8_piece_30
  · have V : gW D T A s [(o, .inr (8, [.int (nI 0), .ref g1, .ref g2, .ref g3, .ref g4, .int (nI tp), .int w6, .int w7, .int w8, .int w9, .int w10, .int w11, .int w12, .int w13, .int w14, .ref g15, .int w16, .ref g17, .int w18, .int w19, .ref g20, .int w21, .ref g22, .ref g23, .ref g24, .int w25, .int w26, .int w27, .ref g28, .ref g29, .int w30, .ref g31, .ref g32, .ref g33])), (g1, .inl (T 0, 282, .inl fa))] H locs := V
    show W p l e _ s m args below meth c H locs _ _ _ (F0 m 10 ls [.int (nI 0)])
    refine lv_if_ne (tgt := 16) hx hb dX8_piece_10 (by decide) (fun c => absurd (show (nI 0) = 0 by decide +kernel) c) (fun _ => ?_)
    refine lv_bipush (v := (-2)) hx hb dX8_piece_13 (by decide +kernel) ?_
    exact g_iret (Qr := (q_m_piece_f T n o i st w0 g1 g2 g3 g4 tp w6 w7 w8 w9 w10 w11 w12 w13 w14 g15 w16 g17 w18 w19 g20 w21 g22 g23 g24 w25 w26 w27 g28 g29 w30 g31 g32 g33 fa)) hC V ⟨(Nat.le_of_ble_eq_true rfl), (Nat.le_of_ble_eq_true rfl)⟩ ⟨(-2), fa, rfl, rfl, ms0, (pi_1 (f := fa) (b := st) f_4).1, (pi_1 (f := fa) (b := st) f_4).2⟩ dX8_piece_15

/-! minute -/
abbrev minP (n : Nat) (pl sk : Int32) : Prop := setP n pl ∧ setP n sk ∧ pl &&& sk = 0
def minA (n : Nat) (f : Nat → Int32) (pl sk : Int32) : Int32 := if minP n pl sk then (if f 1 = nI 9999 then -5 else goC f sk n) else -3
def minF (n : Nat) (f : Nat → Int32) (pl sk : Int32) : Nat → Int32 := if minP n pl sk ∧ ¬ f 1 = nI 9999 then goF n f pl sk (-1) (nI 0) else f
theorem mn_3 {n : Nat} {f : Nat → Int32} {pl sk : Int32} (h : ¬ minP n pl sk) : -3 = minA n f pl sk ∧ f = minF n f pl sk := by
  unfold minA minF; rw [if_neg h, if_neg (fun q => h q.1)]; exact ⟨rfl, rfl⟩
theorem mn_5 {n : Nat} {f : Nat → Int32} {pl sk : Int32} (hp : minP n pl sk) (h : f 1 = nI 9999) : -5 = minA n f pl sk ∧ f = minF n f pl sk := by
  unfold minA minF; rw [if_pos hp, if_pos h, if_neg (fun q => q.2 h)]; exact ⟨rfl, rfl⟩
theorem mn_y {n : Nat} {f : Nat → Int32} {pl sk : Int32} (hp : minP n pl sk) (h : ¬ f 1 = nI 9999) : goC f sk n = minA n f pl sk ∧ goF n f pl sk (-1) (nI 0) = minF n f pl sk := by
  unfold minA minF; rw [if_pos hp, if_neg h, if_pos ⟨hp, h⟩]; exact ⟨rfl, rfl⟩
theorem m9_ge {m x : Int32} (e : x = m) (hb : bd x 10000) (h : ¬ m < nI 9999) : x = nI 9999 := by
  obtain ⟨j, hj, rfl⟩ := hb
  rw [← e] at h
  have := b_nlt (by omega) (by decide) h
  rw [show j = 9999 by omega]
theorem m9_lt {m x : Int32} (e : x = m) (h : m < nI 9999) : ¬ x = nI 9999 := by
  intro q
  rw [← e, q] at h
  exact absurd h (by decide +kernel)

def q_s_isSet_f (T : Nat → ClassId) (a0 : Nat) (v : Int32) (an : Nat) (am : Int32) (al : Int32) (ao : Int32) (au : Int32) (a1 : Nat) (a2 : Nat) (a3 : Nat) (a4 : Nat) (a5 : Nat) (a6 : Nat) (a7 : Nat) (a8 : Nat) (a9 : Nat) (a10 : Nat) : Option Value → va_W → Prop := fun rr ww => (rr = some (.int (nI 1)) ∧ ww = [(a0, .inr (5, [.int (nI an), .int am, .int al, .int ao, .int au, .ref a1, .ref a2, .ref a3, .ref a4, .ref a5, .ref a6, .ref a7, .ref a8, .ref a9, .ref a10]))] ∧ setP an v) ∨ (rr = some (.int (nI 0)) ∧ ww = [(a0, .inr (5, [.int (nI an), .int am, .int al, .int ao, .int au, .ref a1, .ref a2, .ref a3, .ref a4, .ref a5, .ref a6, .ref a7, .ref a8, .ref a9, .ref a10]))] ∧ ¬ setP an v)
set_option maxHeartbeats 4000000 in
set_option maxRecDepth 100000 in
theorem s_isSet_f (l : Launch) (D : va_G) (T : Nat → ClassId) (a0 : Nat) (v : Int32) (an : Nat) (am : Int32) (al : Int32) (ao : Int32) (au : Int32) (a1 : Nat) (a2 : Nat) (a3 : Nat) (a4 : Nat) (a5 : Nat) (a6 : Nat) (a7 : Nat) (a8 : Nat) (a9 : Nat) (a10 : Nat) (h_n : an ≤ 10) : Ct l yX5_isSet cX5_isSet 2 (some .boolean) 1 0 0 D T [.ref a0, .int v] [(a0, .inr (5, [.int (nI an), .int am, .int al, .int ao, .int au, .ref a1, .ref a2, .ref a3, .ref a4, .ref a5, .ref a6, .ref a7, .ref a8, .ref a9, .ref a10]))] (q_s_isSet_f T a0 v an am al ao au a1 a2 a3 a4 a5 a6 a7 a8 a9 a10) := by
  refine Ct.of (cc := cX5_isSet) (maxL := 2) (ret := (some .boolean)) (by decide) (Nat.le_of_ble_eq_true rfl) ?_
  intro p e s m args below meth c A ls hC hnm V hl
  obtain ⟨hx, hb, hr, hml, hown, hts, hlocks⟩ := id hC
  generalize hH : s.heap = H at V ⊢
  clear hH
  have hl : lv_has ls 2 [(0, .ref a0), (1, .int v)] := hl
  generalize hlo : ([] : List Loc) = locs at V ⊢
  clear hlo
  refine lv_iload_n hx hb dX5_isSet_0 rfl (lv_at hl 1 rfl) ?_
  refine lv_aload_n hx hb dX5_isSet_1 rfl (lv_at hl 0 rfl) ?_
  refine g_callV (wr := []) (nA := 0) hC V hl.1 (s_everyone l D T a0 an am al ao au a1 a2 a3 a4 a5 a6 a7 a8 a9 a10 (by first | assumption | omega)) w_462 w_463 w_464 w_3 w_465 (by decide +kernel) rfl ⟨(Nat.le_of_ble_eq_true rfl), (Nat.le_of_ble_eq_true rfl)⟩ 0 (ci := 5) rfl rfl [0] [] rfl rfl rfl rfl (by decide) (Nat.le_of_ble_eq_true rfl) dX5_isSet_2 ⟨(Nat.le_of_ble_eq_true rfl), (Nat.le_of_ble_eq_true rfl)⟩ rfl (fun r w1 H locs hQ V => ?_)
  obtain ⟨rfl, rfl⟩ := hQ
  have V : gW D T A s [(a0, .inr (5, [.int (nI an), .int am, .int al, .int ao, .int au, .ref a1, .ref a2, .ref a3, .ref a4, .ref a5, .ref a6, .ref a7, .ref a8, .ref a9, .ref a10]))] H locs := V
  show W p l e _ s m args below meth c H locs _ _ _ (F0 m 5 ls [.int (nI (2 ^ an - 1)), .int v])
  refine lv_iconst (v := (-1)) hx hb dX5_isSet_5 (by decide +kernel) ?_
  refine lv_ixor hx hb dX5_isSet_6 ?_
  refine lv_iand hx hb dX5_isSet_7 ?_
  refine lv_if_ne (tgt := 15) hx hb dX5_isSet_8 (by decide) (fun c_1 => ?_) (fun c_1 => ?_)
  · skip
    refine lv_iconst (v := (nI 0)) hx hb dX5_isSet_15 (by decide +kernel) ?_
    exact g_zret (Qr := (q_s_isSet_f T a0 v an am al ao au a1 a2 a3 a4 a5 a6 a7 a8 a9 a10)) hC V ⟨(Nat.le_of_ble_eq_true rfl), (Nat.le_of_ble_eq_true rfl)⟩ (by first | decide +kernel | exact rfl) (.inr ⟨rfl, rfl, (fun h => absurd ((set_c h_n).mpr h) (by assumption))⟩) dX5_isSet_16
  · skip
    refine lv_iconst (v := (nI 1)) hx hb dX5_isSet_11 (by decide +kernel) ?_
    refine lv_goto (tgt := 16) hx hb dX5_isSet_12 (by decide) ?_
    exact g_zret (Qr := (q_s_isSet_f T a0 v an am al ao au a1 a2 a3 a4 a5 a6 a7 a8 a9 a10)) hC V ⟨(Nat.le_of_ble_eq_true rfl), (Nat.le_of_ble_eq_true rfl)⟩ (by first | decide +kernel | exact rfl) (.inl ⟨rfl, rfl, ((set_c h_n).mp (by assumption))⟩) dX5_isSet_16

def q_m_isSet_f (T : Nat → ClassId) (v : Int32) (n : Nat) (o : Nat) (w0 : Int32) (g1 : Nat) (g2 : Nat) (g3 : Nat) (g4 : Nat) (tp : Nat) (w6 : Int32) (w7 : Int32) (w8 : Int32) (w9 : Int32) (w10 : Int32) (w11 : Int32) (w12 : Int32) (w13 : Int32) (w14 : Int32) (g15 : Nat) (w16 : Int32) (g17 : Nat) (w18 : Int32) (w19 : Int32) (g20 : Nat) (w21 : Int32) (g22 : Nat) (g23 : Nat) (g24 : Nat) (w25 : Int32) (w26 : Int32) (w27 : Int32) (g28 : Nat) (g29 : Nat) (w30 : Int32) (g31 : Nat) (g32 : Nat) (g33 : Nat) (fa : Nat → Int32) : Option Value → va_W → Prop := fun rr ww => (rr = some (.int (nI 1)) ∧ ww = [(o, .inr (8, [.int w0, .ref g1, .ref g2, .ref g3, .ref g4, .int (nI tp), .int w6, .int w7, .int w8, .int w9, .int w10, .int w11, .int w12, .int w13, .int w14, .ref g15, .int w16, .ref g17, .int w18, .int w19, .ref g20, .int w21, .ref g22, .ref g23, .ref g24, .int w25, .int w26, .int w27, .ref g28, .ref g29, .int w30, .ref g31, .ref g32, .ref g33])), (g1, .inl (T 0, 282, .inl fa))] ∧ setP n v) ∨ (rr = some (.int (nI 0)) ∧ ww = [(o, .inr (8, [.int w0, .ref g1, .ref g2, .ref g3, .ref g4, .int (nI tp), .int w6, .int w7, .int w8, .int w9, .int w10, .int w11, .int w12, .int w13, .int w14, .ref g15, .int w16, .ref g17, .int w18, .int w19, .ref g20, .int w21, .ref g22, .ref g23, .ref g24, .int w25, .int w26, .int w27, .ref g28, .ref g29, .int w30, .ref g31, .ref g32, .ref g33])), (g1, .inl (T 0, 282, .inl fa))] ∧ ¬ setP n v)
set_option maxHeartbeats 4000000 in
set_option maxRecDepth 100000 in
theorem m_isSet_f (l : Launch) (D : va_G) (T : Nat → ClassId) (v : Int32) (n : Nat) (o : Nat) (w0 : Int32) (g1 : Nat) (g2 : Nat) (g3 : Nat) (g4 : Nat) (tp : Nat) (w6 : Int32) (w7 : Int32) (w8 : Int32) (w9 : Int32) (w10 : Int32) (w11 : Int32) (w12 : Int32) (w13 : Int32) (w14 : Int32) (g15 : Nat) (w16 : Int32) (g17 : Nat) (w18 : Int32) (w19 : Int32) (g20 : Nat) (w21 : Int32) (g22 : Nat) (g23 : Nat) (g24 : Nat) (w25 : Int32) (w26 : Int32) (w27 : Int32) (g28 : Nat) (g29 : Nat) (w30 : Int32) (g31 : Nat) (g32 : Nat) (g33 : Nat) (fa : Nat → Int32) (h_a : MI n fa) : Ct l yX8_isSet cX8_isSet 3 (some .boolean) 1 0 0 D T [.ref o, .long v.toInt64] [(o, .inr (8, [.int w0, .ref g1, .ref g2, .ref g3, .ref g4, .int (nI tp), .int w6, .int w7, .int w8, .int w9, .int w10, .int w11, .int w12, .int w13, .int w14, .ref g15, .int w16, .ref g17, .int w18, .int w19, .ref g20, .int w21, .ref g22, .ref g23, .ref g24, .int w25, .int w26, .int w27, .ref g28, .ref g29, .int w30, .ref g31, .ref g32, .ref g33])), (g1, .inl (T 0, 282, .inl fa))] (q_m_isSet_f T v n o w0 g1 g2 g3 g4 tp w6 w7 w8 w9 w10 w11 w12 w13 w14 g15 w16 g17 w18 w19 g20 w21 g22 g23 g24 w25 w26 w27 g28 g29 w30 g31 g32 g33 fa) := by
  refine Ct.of (cc := cX8_isSet) (maxL := 3) (ret := (some .boolean)) (by decide) (Nat.le_of_ble_eq_true rfl) ?_
  intro p e s m args below meth c A ls hC hnm V hl
  obtain ⟨hx, hb, hr, hml, hown, hts, hlocks⟩ := id hC
  generalize hH : s.heap = H at V ⊢
  clear hH
  have hl : lv_has ls 3 [(0, .ref o), (1, .long v.toInt64)] := hl
  generalize hlo : ([] : List Loc) = locs at V ⊢
  clear hlo
  have ms0 := ms_rf h_a
  have hn10 := h_a.1
  refine lv_lload_n hx hb dX8_isSet_0 rfl (lv_at hl 1 rfl) ?_
  refine lv_lconst (v := (nI 0).toInt64) hx hb dX8_isSet_1 (by decide +kernel) ?_
  refine lv_lconst (v := (nI 1).toInt64) hx hb dX8_isSet_2 (by decide +kernel) ?_
  refine lv_aload_n hx hb dX8_isSet_3 rfl (lv_at hl 0 rfl) ?_
  refine g_get hC V (ci := 8) uwX8 0 rfl rfl 1 (by decide) w_913 rfl rfl dX8_isSet_4 ?_
  refine lv_iconst (v := (nI 0)) hx hb dX8_isSet_7 (by decide +kernel) ?_
  refine g_iald hC V 1 rfl (vp_in_nI (by decide) (by decide)) (v := (nI n)) (by rw [nI_clamp (by decide)]; first | rfl | exact h_a.2.1) dX8_isSet_8 ?_
  refine lv_lshl hx hb dX8_isSet_9 rfl ?_
  refine lv_lconst (v := (nI 1).toInt64) hx hb dX8_isSet_10 (by decide +kernel) ?_
  refine lv_lsub hx hb dX8_isSet_11 ?_
  refine g_vl (y := (nI (2 ^ n - 1)).toInt64) (set_m1 (by omega)) ?_
  refine g_callSU (nA := 3) hC V hl.1 (m_within l D T v (nI 0) (nI (2 ^ n - 1))) w_1023 w_1024 w_9 w_1025 (by decide +kernel) rfl ⟨(Nat.le_of_ble_eq_true rfl), (Nat.le_of_ble_eq_true rfl)⟩ [] rfl rfl (Nat.le_of_ble_eq_true rfl) dX8_isSet_12 ⟨(Nat.le_of_ble_eq_true rfl), (Nat.le_of_ble_eq_true rfl)⟩ rfl (fun r w1 H locs hQ V => ?_)
  rcases hQ with ⟨rfl, rfl, f_1, f_2⟩ | ⟨rfl, rfl, f_3⟩
  · have V : gW D T A s [(o, .inr (8, [.int w0, .ref g1, .ref g2, .ref g3, .ref g4, .int (nI tp), .int w6, .int w7, .int w8, .int w9, .int w10, .int w11, .int w12, .int w13, .int w14, .ref g15, .int w16, .ref g17, .int w18, .int w19, .ref g20, .int w21, .ref g22, .ref g23, .ref g24, .int w25, .int w26, .int w27, .ref g28, .ref g29, .int w30, .ref g31, .ref g32, .ref g33])), (g1, .inl (T 0, 282, .inl fa))] H locs := V _ [] rfl rfl rfl (by decide +kernel) rfl
    show W p l e _ s m args below meth c H locs _ _ _ (F0 m 15 ls [.int (nI 1)])
    exact g_zret (Qr := (q_m_isSet_f T v n o w0 g1 g2 g3 g4 tp w6 w7 w8 w9 w10 w11 w12 w13 w14 g15 w16 g17 w18 w19 g20 w21 g22 g23 g24 w25 w26 w27 g28 g29 w30 g31 g32 g33 fa)) hC V ⟨(Nat.le_of_ble_eq_true rfl), (Nat.le_of_ble_eq_true rfl)⟩ (by first | decide +kernel | exact rfl) (.inl ⟨rfl, rfl, (fun q => q.elim f_1 f_2)⟩) dX8_isSet_15
  · have V : gW D T A s [(o, .inr (8, [.int w0, .ref g1, .ref g2, .ref g3, .ref g4, .int (nI tp), .int w6, .int w7, .int w8, .int w9, .int w10, .int w11, .int w12, .int w13, .int w14, .ref g15, .int w16, .ref g17, .int w18, .int w19, .ref g20, .int w21, .ref g22, .ref g23, .ref g24, .int w25, .int w26, .int w27, .ref g28, .ref g29, .int w30, .ref g31, .ref g32, .ref g33])), (g1, .inl (T 0, 282, .inl fa))] H locs := V _ [] rfl rfl rfl (by decide +kernel) rfl
    show W p l e _ s m args below meth c H locs _ _ _ (F0 m 15 ls [.int (nI 0)])
    exact g_zret (Qr := (q_m_isSet_f T v n o w0 g1 g2 g3 g4 tp w6 w7 w8 w9 w10 w11 w12 w13 w14 g15 w16 g17 w18 w19 g20 w21 g22 g23 g24 w25 w26 w27 g28 g29 w30 g31 g32 g33 fa)) hC V ⟨(Nat.le_of_ble_eq_true rfl), (Nat.le_of_ble_eq_true rfl)⟩ (by first | decide +kernel | exact rfl) (.inr ⟨rfl, rfl, (fun h => h f_3)⟩) dX8_isSet_15

def q_x_minute_f (T : Nat → ClassId) (fa : Nat → Int32) (o : Nat) (pl : Int32) (sk : Int32) (n0 : Nat) (s0 : Nat) (im : Nat) (iz : Nat) (rw : Nat) (t0 : Nat) (u0 : Nat) (h0 : Nat) (y0 : Nat) (sv : Value) (nn : Nat) (nm : Int32) (nl : Int32) (no : Int32) (nu : Int32) (n1 : Nat) (n2 : Nat) (n3 : Nat) (n4 : Nat) (n5 : Nat) (n6 : Nat) (n7 : Nat) (n8 : Nat) (n9 : Nat) (n10 : Nat) (nf1 : Nat → Int32) (nf2 : Nat → Int32) (nf3 : Nat → Int32) (nf4 : Nat → Int32) (nf5 : Nat → Int32) (nf6 : Nat → Int32) (nf7 : Nat → Int32) (nf8 : Nat → Int32) (nf9 : Nat → Int32) (nf10 : Nat → Int32) : Option Value → va_W → Prop := fun rr ww => (∃ (z : Int32) (mm : Int32) (uu : Int32) (g3 : Nat → Int32) (g7 : Nat → Int32) (g8 : Nat → Int32) (g10 : Nat → Int32), rr = some (.int z) ∧ ww = [(o, .inr (7, [.ref n0, .ref s0, .ref im, .ref iz, .ref rw, .ref t0, .ref u0, .ref h0, .ref y0, sv])), (n0, .inr (5, [.int (nI nn), .int mm, .int nl, .int no, .int uu, .ref n1, .ref n2, .ref n3, .ref n4, .ref n5, .ref n6, .ref n7, .ref n8, .ref n9, .ref n10])), (n1, .inl (T 0, 10, .inl nf1)), (n2, .inl (T 0, 10, .inl nf2)), (n3, .inl (T 0, 10, .inl g3)), (n4, .inl (T 0, 10, .inl nf4)), (n5, .inl (T 0, 10, .inl nf5)), (n6, .inl (T 0, 10, .inl nf6)), (n7, .inl (T 0, 10, .inl g7)), (n8, .inl (T 0, 10, .inl g8)), (n9, .inl (T 0, 10, .inl nf9)), (n10, .inl (T 0, 10, .inl g10))] ∧ z = minA nn fa pl sk ∧ SR nn mm nl no nf1 nf2 g3 nf4 nf5 nf6 g7 nf9 (minF nn fa pl sk))
set_option maxHeartbeats 4000000 in
set_option maxRecDepth 100000 in
theorem x_minute_f (l : Launch) (D : va_G) (T : Nat → ClassId) (fa : Nat → Int32) (o : Nat) (pl : Int32) (sk : Int32) (n0 : Nat) (s0 : Nat) (im : Nat) (iz : Nat) (rw : Nat) (t0 : Nat) (u0 : Nat) (h0 : Nat) (y0 : Nat) (sv : Value) (nn : Nat) (nm : Int32) (nl : Int32) (no : Int32) (nu : Int32) (n1 : Nat) (n2 : Nat) (n3 : Nat) (n4 : Nat) (n5 : Nat) (n6 : Nat) (n7 : Nat) (n8 : Nat) (n9 : Nat) (n10 : Nat) (nf1 : Nat → Int32) (nf2 : Nat → Int32) (nf3 : Nat → Int32) (nf4 : Nat → Int32) (nf5 : Nat → Int32) (nf6 : Nat → Int32) (nf7 : Nat → Int32) (nf8 : Nat → Int32) (nf9 : Nat → Int32) (nf10 : Nat → Int32) (h_n : nn ≤ 10) (h_t : ∀ i, i < nn → bd (nf9 i) nn) (h_sr : SR nn nm nl no nf1 nf2 nf3 nf4 nf5 nf6 nf7 nf9 fa) (h_a : MI nn fa) (h_mn : bd (fa 1) 10000) : Ct l yX7_minute cX7_minute 3 (some .int) 3 0 0 D T [.ref o, .int pl, .int sk] [(o, .inr (7, [.ref n0, .ref s0, .ref im, .ref iz, .ref rw, .ref t0, .ref u0, .ref h0, .ref y0, sv])), (n0, .inr (5, [.int (nI nn), .int nm, .int nl, .int no, .int nu, .ref n1, .ref n2, .ref n3, .ref n4, .ref n5, .ref n6, .ref n7, .ref n8, .ref n9, .ref n10])), (n1, .inl (T 0, 10, .inl nf1)), (n2, .inl (T 0, 10, .inl nf2)), (n3, .inl (T 0, 10, .inl nf3)), (n4, .inl (T 0, 10, .inl nf4)), (n5, .inl (T 0, 10, .inl nf5)), (n6, .inl (T 0, 10, .inl nf6)), (n7, .inl (T 0, 10, .inl nf7)), (n8, .inl (T 0, 10, .inl nf8)), (n9, .inl (T 0, 10, .inl nf9)), (n10, .inl (T 0, 10, .inl nf10))] (q_x_minute_f T fa o pl sk n0 s0 im iz rw t0 u0 h0 y0 sv nn nm nl no nu n1 n2 n3 n4 n5 n6 n7 n8 n9 n10 nf1 nf2 nf3 nf4 nf5 nf6 nf7 nf8 nf9 nf10) := by
  refine Ct.of (cc := cX7_minute) (maxL := 3) (ret := (some .int)) (by decide) (Nat.le_of_ble_eq_true rfl) ?_
  intro p e s m args below meth c A ls hC hnm V hl
  obtain ⟨hx, hb, hr, hml, hown, hts, hlocks⟩ := id hC
  generalize hH : s.heap = H at V ⊢
  clear hH
  have hl : lv_has ls 3 [(0, .ref o), (1, .int pl), (2, .int sk)] := hl
  generalize hlo : ([] : List Loc) = locs at V ⊢
  clear hlo
  refine lv_aload_n hx hb dX7_minute_0 rfl (lv_at hl 0 rfl) ?_
  refine g_get hC V (ci := 7) uwX7 0 rfl rfl 0 (by decide) w_249 rfl rfl dX7_minute_1 ?_
  refine lv_iload_n hx hb dX7_minute_4 rfl (lv_at hl 1 rfl) ?_
  refine g_callVU (nA := 1) hC V hl.1 (s_isSet_f l D T n0 pl nn nm nl no nu n1 n2 n3 n4 n5 n6 n7 n8 n9 n10 (by first | assumption | omega)) w_458 w_459 w_460 w_3 w_461 (by decide +kernel) rfl ⟨(Nat.le_of_ble_eq_true rfl), (Nat.le_of_ble_eq_true rfl)⟩ 1 (ci := 5) rfl rfl [1] rfl rfl (Nat.le_of_ble_eq_true rfl) dX7_minute_5 ⟨(Nat.le_of_ble_eq_true rfl), (Nat.le_of_ble_eq_true rfl)⟩ rfl (fun r w1 H locs hQ V => ?_)
  rcases hQ with ⟨rfl, rfl, f_1⟩ | ⟨rfl, rfl, f_2⟩
  · have V : gW D T A s [(o, .inr (7, [.ref n0, .ref s0, .ref im, .ref iz, .ref rw, .ref t0, .ref u0, .ref h0, .ref y0, sv])), (n0, .inr (5, [.int (nI nn), .int nm, .int nl, .int no, .int nu, .ref n1, .ref n2, .ref n3, .ref n4, .ref n5, .ref n6, .ref n7, .ref n8, .ref n9, .ref n10])), (n1, .inl (T 0, 10, .inl nf1)), (n2, .inl (T 0, 10, .inl nf2)), (n3, .inl (T 0, 10, .inl nf3)), (n4, .inl (T 0, 10, .inl nf4)), (n5, .inl (T 0, 10, .inl nf5)), (n6, .inl (T 0, 10, .inl nf6)), (n7, .inl (T 0, 10, .inl nf7)), (n8, .inl (T 0, 10, .inl nf8)), (n9, .inl (T 0, 10, .inl nf9)), (n10, .inl (T 0, 10, .inl nf10))] H locs := V _ [1] rfl rfl rfl (by decide +kernel) rfl
    show W p l e _ s m args below meth c H locs _ _ _ (F0 m 8 ls [.int (nI 1)])
    refine lv_if_eq (tgt := 28) hx hb dX7_minute_8 (by decide) (fun c => absurd (show (nI 1) = 0 from c) (by decide +kernel)) (fun _ => ?_)
    refine lv_aload_n hx hb dX7_minute_11 rfl (lv_at hl 0 rfl) ?_
    refine g_get hC V (ci := 7) uwX7 0 rfl rfl 0 (by decide) w_249 rfl rfl dX7_minute_12 ?_
    refine lv_iload_n hx hb dX7_minute_15 rfl (lv_at hl 2 rfl) ?_
    refine g_callVU (nA := 1) hC V hl.1 (s_isSet_f l D T n0 sk nn nm nl no nu n1 n2 n3 n4 n5 n6 n7 n8 n9 n10 (by first | assumption | omega)) w_458 w_459 w_460 w_3 w_461 (by decide +kernel) rfl ⟨(Nat.le_of_ble_eq_true rfl), (Nat.le_of_ble_eq_true rfl)⟩ 1 (ci := 5) rfl rfl [1] rfl rfl (Nat.le_of_ble_eq_true rfl) dX7_minute_16 ⟨(Nat.le_of_ble_eq_true rfl), (Nat.le_of_ble_eq_true rfl)⟩ rfl (fun r w1 H locs hQ V => ?_)
    rcases hQ with ⟨rfl, rfl, f_3⟩ | ⟨rfl, rfl, f_4⟩
    · have V : gW D T A s [(o, .inr (7, [.ref n0, .ref s0, .ref im, .ref iz, .ref rw, .ref t0, .ref u0, .ref h0, .ref y0, sv])), (n0, .inr (5, [.int (nI nn), .int nm, .int nl, .int no, .int nu, .ref n1, .ref n2, .ref n3, .ref n4, .ref n5, .ref n6, .ref n7, .ref n8, .ref n9, .ref n10])), (n1, .inl (T 0, 10, .inl nf1)), (n2, .inl (T 0, 10, .inl nf2)), (n3, .inl (T 0, 10, .inl nf3)), (n4, .inl (T 0, 10, .inl nf4)), (n5, .inl (T 0, 10, .inl nf5)), (n6, .inl (T 0, 10, .inl nf6)), (n7, .inl (T 0, 10, .inl nf7)), (n8, .inl (T 0, 10, .inl nf8)), (n9, .inl (T 0, 10, .inl nf9)), (n10, .inl (T 0, 10, .inl nf10))] H locs := V _ [1] rfl rfl rfl (by decide +kernel) rfl
      show W p l e _ s m args below meth c H locs _ _ _ (F0 m 19 ls [.int (nI 1)])
      refine lv_if_eq (tgt := 28) hx hb dX7_minute_19 (by decide) (fun c => absurd (show (nI 1) = 0 from c) (by decide +kernel)) (fun _ => ?_)
      refine lv_iload_n hx hb dX7_minute_22 rfl (lv_at hl 1 rfl) ?_
      refine lv_iload_n hx hb dX7_minute_23 rfl (lv_at hl 2 rfl) ?_
      refine lv_iand hx hb dX7_minute_24 ?_
      refine lv_if_eq (tgt := 31) hx hb dX7_minute_25 (by decide) (fun c_5 => ?_) (fun c_5 => ?_)
      · skip
        refine lv_aload_n hx hb dX7_minute_31 rfl (lv_at hl 0 rfl) ?_
        refine g_get hC V (ci := 7) uwX7 0 rfl rfl 0 (by decide) w_249 rfl rfl dX7_minute_32 ?_
        refine g_get hC V (ci := 5) uwX5 1 rfl rfl 1 (by decide) w_41 rfl rfl dX7_minute_35 ?_
        refine lv_sipush (v := (nI 9999)) hx hb dX7_minute_38 (by decide +kernel) ?_
        refine lv_icmp_lt (tgt := 47) hx hb dX7_minute_41 (by decide) (fun c_6 => ?_) (fun c_6 => ?_)
        · skip
          have h9 := m9_lt h_sr.2.1 c_6
          refine lv_aload_n hx hb dX7_minute_47 rfl (lv_at hl 0 rfl) ?_
          refine g_get hC V (ci := 7) uwX7 0 rfl rfl 0 (by decide) w_249 rfl rfl dX7_minute_48 ?_
          refine lv_iload_n hx hb dX7_minute_51 rfl (lv_at hl 1 rfl) ?_
          refine lv_iload_n hx hb dX7_minute_52 rfl (lv_at hl 2 rfl) ?_
          refine lv_iconst (v := (-1)) hx hb dX7_minute_53 (by decide +kernel) ?_
          refine lv_iconst (v := (nI 0)) hx hb dX7_minute_54 (by decide +kernel) ?_
          refine g_callVU (nA := 4) hC V hl.1 (s_pass_f l D T fa n0 pl sk (-1) (nI 0) nn nm nl no nu n1 n2 n3 n4 n5 n6 n7 n8 n9 n10 nf1 nf2 nf3 nf4 nf5 nf6 nf7 nf8 nf9 nf10 h_n h_t (fun i hi => (h_sr.2.2.2.2 i hi).1) (fun i hi => (h_sr.2.2.2.2 i hi).2.1) (fun i hi => (h_sr.2.2.2.2 i hi).2.2.1) (fun i hi => (h_sr.2.2.2.2 i hi).2.2.2.1) (fun i hi => (h_sr.2.2.2.2 i hi).2.2.2.2.1) (fun i hi => (h_sr.2.2.2.2 i hi).2.2.2.2.2.1) (fun i hi => (h_sr.2.2.2.2 i hi).2.2.2.2.2.2.1) (fun i hi => (h_sr.2.2.2.2 i hi).2.2.2.2.2.2.2) h_sr.2.2.1.symm h_a) w_466 w_467 w_468 w_3 w_469 (by decide +kernel) rfl ⟨(Nat.le_of_ble_eq_true rfl), (Nat.le_of_ble_eq_true rfl)⟩ 1 (ci := 5) rfl rfl [1, 2, 3, 4, 5, 6, 7, 8, 9, 10, 11] rfl rfl (Nat.le_of_ble_eq_true rfl) dX7_minute_55 ⟨(Nat.le_of_ble_eq_true rfl), (Nat.le_of_ble_eq_true rfl)⟩ rfl (fun r w1 H locs hQ V => ?_)
          obtain ⟨z_7, u_8, g3_9, g7_10, g8_11, g10_12, rfl, rfl, f_13, f_14, f_15, f_16⟩ := hQ
          have V : gW D T A s [(o, .inr (7, [.ref n0, .ref s0, .ref im, .ref iz, .ref rw, .ref t0, .ref u0, .ref h0, .ref y0, sv])), (n0, .inr (5, [.int (nI nn), .int (nm + (nI 1)), .int nl, .int no, .int u_8, .ref n1, .ref n2, .ref n3, .ref n4, .ref n5, .ref n6, .ref n7, .ref n8, .ref n9, .ref n10])), (n1, .inl (T 0, 10, .inl nf1)), (n2, .inl (T 0, 10, .inl nf2)), (n3, .inl (T 0, 10, .inl g3_9)), (n4, .inl (T 0, 10, .inl nf4)), (n5, .inl (T 0, 10, .inl nf5)), (n6, .inl (T 0, 10, .inl nf6)), (n7, .inl (T 0, 10, .inl g7_10)), (n8, .inl (T 0, 10, .inl g8_11)), (n9, .inl (T 0, 10, .inl nf9)), (n10, .inl (T 0, 10, .inl g10_12))] H locs := V _ [1, 0, 0, 0, 0, 0, 0, 0, 0, 0, 0] rfl rfl rfl (by decide +kernel) rfl
          show W p l e _ s m args below meth c H locs _ _ _ (F0 m 58 ls [.int z_7])
          exact g_iret (Qr := (q_x_minute_f T fa o pl sk n0 s0 im iz rw t0 u0 h0 y0 sv nn nm nl no nu n1 n2 n3 n4 n5 n6 n7 n8 n9 n10 nf1 nf2 nf3 nf4 nf5 nf6 nf7 nf8 nf9 nf10)) hC V ⟨(Nat.le_of_ble_eq_true rfl), (Nat.le_of_ble_eq_true rfl)⟩ ⟨z_7, (nm + (nI 1)), u_8, g3_9, g7_10, g8_11, g10_12, rfl, rfl, (f_13.trans (mn_y ⟨by assumption, by assumption, by assumption⟩ h9).1), (by rw [← (mn_y (f := fa) ⟨by assumption, by assumption, by assumption⟩ h9).2]; exact SR_go h_n h_sr f_14 f_15)⟩ dX7_minute_58
        · skip
          have h9 := m9_ge h_sr.2.1 h_mn c_6
          refine lv_bipush (v := (-5)) hx hb dX7_minute_44 (by decide +kernel) ?_
          exact g_iret (Qr := (q_x_minute_f T fa o pl sk n0 s0 im iz rw t0 u0 h0 y0 sv nn nm nl no nu n1 n2 n3 n4 n5 n6 n7 n8 n9 n10 nf1 nf2 nf3 nf4 nf5 nf6 nf7 nf8 nf9 nf10)) hC V ⟨(Nat.le_of_ble_eq_true rfl), (Nat.le_of_ble_eq_true rfl)⟩ ⟨(-5), nm, nu, nf3, nf7, nf8, nf10, rfl, rfl, (mn_5 ⟨by assumption, by assumption, by assumption⟩ h9).1, (by rw [← (mn_5 (f := fa) ⟨by assumption, by assumption, by assumption⟩ h9).2]; exact h_sr)⟩ dX7_minute_46
      · skip
        refine lv_bipush (v := (-3)) hx hb dX7_minute_28 (by decide +kernel) ?_
        exact g_iret (Qr := (q_x_minute_f T fa o pl sk n0 s0 im iz rw t0 u0 h0 y0 sv nn nm nl no nu n1 n2 n3 n4 n5 n6 n7 n8 n9 n10 nf1 nf2 nf3 nf4 nf5 nf6 nf7 nf8 nf9 nf10)) hC V ⟨(Nat.le_of_ble_eq_true rfl), (Nat.le_of_ble_eq_true rfl)⟩ ⟨(-3), nm, nu, nf3, nf7, nf8, nf10, rfl, rfl, (mn_3 (f := fa) (by first | exact fun q => absurd q.1 (by assumption) | exact fun q => absurd q.2.1 (by assumption) | exact fun q => absurd q.2.2 (by assumption))).1, (by rw [← (mn_3 (f := fa) (by first | exact fun q => absurd q.1 (by assumption) | exact fun q => absurd q.2.1 (by assumption) | exact fun q => absurd q.2.2 (by assumption))).2]; exact h_sr)⟩ dX7_minute_30
    · have V : gW D T A s [(o, .inr (7, [.ref n0, .ref s0, .ref im, .ref iz, .ref rw, .ref t0, .ref u0, .ref h0, .ref y0, sv])), (n0, .inr (5, [.int (nI nn), .int nm, .int nl, .int no, .int nu, .ref n1, .ref n2, .ref n3, .ref n4, .ref n5, .ref n6, .ref n7, .ref n8, .ref n9, .ref n10])), (n1, .inl (T 0, 10, .inl nf1)), (n2, .inl (T 0, 10, .inl nf2)), (n3, .inl (T 0, 10, .inl nf3)), (n4, .inl (T 0, 10, .inl nf4)), (n5, .inl (T 0, 10, .inl nf5)), (n6, .inl (T 0, 10, .inl nf6)), (n7, .inl (T 0, 10, .inl nf7)), (n8, .inl (T 0, 10, .inl nf8)), (n9, .inl (T 0, 10, .inl nf9)), (n10, .inl (T 0, 10, .inl nf10))] H locs := V _ [1] rfl rfl rfl (by decide +kernel) rfl
      show W p l e _ s m args below meth c H locs _ _ _ (F0 m 19 ls [.int (nI 0)])
      refine lv_if_eq (tgt := 28) hx hb dX7_minute_19 (by decide) (fun _ => ?_) (fun c => absurd (show (nI 0) = 0 by decide +kernel) c)
      refine lv_bipush (v := (-3)) hx hb dX7_minute_28 (by decide +kernel) ?_
      exact g_iret (Qr := (q_x_minute_f T fa o pl sk n0 s0 im iz rw t0 u0 h0 y0 sv nn nm nl no nu n1 n2 n3 n4 n5 n6 n7 n8 n9 n10 nf1 nf2 nf3 nf4 nf5 nf6 nf7 nf8 nf9 nf10)) hC V ⟨(Nat.le_of_ble_eq_true rfl), (Nat.le_of_ble_eq_true rfl)⟩ ⟨(-3), nm, nu, nf3, nf7, nf8, nf10, rfl, rfl, (mn_3 (f := fa) (by first | exact fun q => absurd q.1 (by assumption) | exact fun q => absurd q.2.1 (by assumption) | exact fun q => absurd q.2.2 (by assumption))).1, (by rw [← (mn_3 (f := fa) (by first | exact fun q => absurd q.1 (by assumption) | exact fun q => absurd q.2.1 (by assumption) | exact fun q => absurd q.2.2 (by assumption))).2]; exact h_sr)⟩ dX7_minute_30
  · have V : gW D T A s [(o, .inr (7, [.ref n0, .ref s0, .ref im, .ref iz, .ref rw, .ref t0, .ref u0, .ref h0, .ref y0, sv])), (n0, .inr (5, [.int (nI nn), .int nm, .int nl, .int no, .int nu, .ref n1, .ref n2, .ref n3, .ref n4, .ref n5, .ref n6, .ref n7, .ref n8, .ref n9, .ref n10])), (n1, .inl (T 0, 10, .inl nf1)), (n2, .inl (T 0, 10, .inl nf2)), (n3, .inl (T 0, 10, .inl nf3)), (n4, .inl (T 0, 10, .inl nf4)), (n5, .inl (T 0, 10, .inl nf5)), (n6, .inl (T 0, 10, .inl nf6)), (n7, .inl (T 0, 10, .inl nf7)), (n8, .inl (T 0, 10, .inl nf8)), (n9, .inl (T 0, 10, .inl nf9)), (n10, .inl (T 0, 10, .inl nf10))] H locs := V _ [1] rfl rfl rfl (by decide +kernel) rfl
    show W p l e _ s m args below meth c H locs _ _ _ (F0 m 8 ls [.int (nI 0)])
    refine lv_if_eq (tgt := 28) hx hb dX7_minute_8 (by decide) (fun _ => ?_) (fun c => absurd (show (nI 0) = 0 by decide +kernel) c)
    refine lv_bipush (v := (-3)) hx hb dX7_minute_28 (by decide +kernel) ?_
    exact g_iret (Qr := (q_x_minute_f T fa o pl sk n0 s0 im iz rw t0 u0 h0 y0 sv nn nm nl no nu n1 n2 n3 n4 n5 n6 n7 n8 n9 n10 nf1 nf2 nf3 nf4 nf5 nf6 nf7 nf8 nf9 nf10)) hC V ⟨(Nat.le_of_ble_eq_true rfl), (Nat.le_of_ble_eq_true rfl)⟩ ⟨(-3), nm, nu, nf3, nf7, nf8, nf10, rfl, rfl, (mn_3 (f := fa) (by first | exact fun q => absurd q.1 (by assumption) | exact fun q => absurd q.2.1 (by assumption) | exact fun q => absurd q.2.2 (by assumption))).1, (by rw [← (mn_3 (f := fa) (by first | exact fun q => absurd q.1 (by assumption) | exact fun q => absurd q.2.1 (by assumption) | exact fun q => absurd q.2.2 (by assumption))).2]; exact h_sr)⟩ dX7_minute_30

def q_m_minute_f (T : Nat → ClassId) (n : Nat) (o : Nat) (pl : Int32) (sk : Int32) (w0 : Int32) (g1 : Nat) (g2 : Nat) (g3 : Nat) (g4 : Nat) (tp : Nat) (w6 : Int32) (w7 : Int32) (w8 : Int32) (w9 : Int32) (w10 : Int32) (w11 : Int32) (w12 : Int32) (w13 : Int32) (w14 : Int32) (g15 : Nat) (w16 : Int32) (g17 : Nat) (w18 : Int32) (w19 : Int32) (g20 : Nat) (w21 : Int32) (g22 : Nat) (g23 : Nat) (g24 : Nat) (w25 : Int32) (w26 : Int32) (w27 : Int32) (g28 : Nat) (g29 : Nat) (w30 : Int32) (g31 : Nat) (g32 : Nat) (g33 : Nat) (fa : Nat → Int32) (fh : Nat → Int32) : Option Value → va_W → Prop := fun rr ww => (∃ (z : Int32) (bm : Int32) (ga : Nat → Int32) (gh : Nat → Int32), rr = some (.int z) ∧ ww = [(o, .inr (8, [.int (nI 0), .ref g1, .ref g2, .ref g3, .ref g4, .int (nI tp), .int w6, .int w7, .int w8, .int w9, .int w10, .int w11, .int w12, .int w13, .int w14, .ref g15, .int bm, .ref g17, .int w18, .int w19, .ref g20, .int w21, .ref g22, .ref g23, .ref g24, .int w25, .int w26, .int w27, .ref g28, .ref g29, .int w30, .ref g31, .ref g32, .ref g33])), (g1, .inl (T 0, 282, .inl ga)), (g15, .inl (T 0, 10, .inl gh))] ∧ MS n fa ga ∧ z = minA n fa pl sk ∧ ga = minF n fa pl sk)
set_option maxHeartbeats 4000000 in
set_option maxRecDepth 100000 in
theorem m_minute_f (l : Launch) (D : va_G) (T : Nat → ClassId) (n : Nat) (o : Nat) (pl : Int32) (sk : Int32) (w0 : Int32) (g1 : Nat) (g2 : Nat) (g3 : Nat) (g4 : Nat) (tp : Nat) (w6 : Int32) (w7 : Int32) (w8 : Int32) (w9 : Int32) (w10 : Int32) (w11 : Int32) (w12 : Int32) (w13 : Int32) (w14 : Int32) (g15 : Nat) (w16 : Int32) (g17 : Nat) (w18 : Int32) (w19 : Int32) (g20 : Nat) (w21 : Int32) (g22 : Nat) (g23 : Nat) (g24 : Nat) (w25 : Int32) (w26 : Int32) (w27 : Int32) (g28 : Nat) (g29 : Nat) (w30 : Int32) (g31 : Nat) (g32 : Nat) (g33 : Nat) (fa : Nat → Int32) (fh : Nat → Int32) (h_a : MI n fa) : Ct l yX8_minute cX8_minute 3 (some .int) 3 0 0 D T [.ref o, .int pl, .int sk] [(o, .inr (8, [.int w0, .ref g1, .ref g2, .ref g3, .ref g4, .int (nI tp), .int w6, .int w7, .int w8, .int w9, .int w10, .int w11, .int w12, .int w13, .int w14, .ref g15, .int w16, .ref g17, .int w18, .int w19, .ref g20, .int w21, .ref g22, .ref g23, .ref g24, .int w25, .int w26, .int w27, .ref g28, .ref g29, .int w30, .ref g31, .ref g32, .ref g33])), (g1, .inl (T 0, 282, .inl fa)), (g15, .inl (T 0, 10, .inl fh))] (q_m_minute_f T n o pl sk w0 g1 g2 g3 g4 tp w6 w7 w8 w9 w10 w11 w12 w13 w14 g15 w16 g17 w18 w19 g20 w21 g22 g23 g24 w25 w26 w27 g28 g29 w30 g31 g32 g33 fa fh) := by
  refine Ct.of (cc := cX8_minute) (maxL := 3) (ret := (some .int)) (by decide) (Nat.le_of_ble_eq_true rfl) ?_
  intro p e s m args below meth c A ls hC hnm V hl
  obtain ⟨hx, hb, hr, hml, hown, hts, hlocks⟩ := id hC
  generalize hH : s.heap = H at V ⊢
  clear hH
  have hl : lv_has ls 3 [(0, .ref o), (1, .int pl), (2, .int sk)] := hl
  generalize hlo : ([] : List Loc) = locs at V ⊢
  clear hlo
  have ms0 := ms_rf h_a
  have hn10 := h_a.1
  refine lv_aload_n hx hb dX8_minute_0 rfl (lv_at hl 0 rfl) ?_
  refine lv_iconst (v := (nI 0)) hx hb dX8_minute_1 (by decide +kernel) ?_
  refine g_put hC V (ci := 8) uwX8 tyX8 tyX8_ok nmX8 0 rfl rfl 0 (by decide) w_912 rfl rfl rfl rfl (Nat.le_of_ble_eq_true rfl) (ws' := [(o, .inr (8, [.int (nI 0), .ref g1, .ref g2, .ref g3, .ref g4, .int (nI tp), .int w6, .int w7, .int w8, .int w9, .int w10, .int w11, .int w12, .int w13, .int w14, .ref g15, .int w16, .ref g17, .int w18, .int w19, .ref g20, .int w21, .ref g22, .ref g23, .ref g24, .int w25, .int w26, .int w27, .ref g28, .ref g29, .int w30, .ref g31, .ref g32, .ref g33])), (g1, .inl (T 0, 282, .inl fa)), (g15, .inl (T 0, 10, .inl fh))]) rfl dX8_minute_2 (fun H locs V => ?_)
  refine lv_aload_n hx hb dX8_minute_5 rfl (lv_at hl 0 rfl) ?_
  refine lv_iload_n hx hb dX8_minute_6 rfl (lv_at hl 1 rfl) ?_
  refine lv_i2l (v := pl.toInt64) hx hb dX8_minute_7 rfl ?_
  refine g_callVU (nA := 1) hC V hl.1 (m_isSet_f l D T pl n o (nI 0) g1 g2 g3 g4 tp w6 w7 w8 w9 w10 w11 w12 w13 w14 g15 w16 g17 w18 w19 g20 w21 g22 g23 g24 w25 w26 w27 g28 g29 w30 g31 g32 g33 fa h_a) w_1118 w_1120 w_s49 w_9 w_1121 (by decide +kernel) rfl ⟨(Nat.le_of_ble_eq_true rfl), (Nat.le_of_ble_eq_true rfl)⟩ 0 (ci := 8) rfl rfl [0, 1] rfl rfl (Nat.le_of_ble_eq_true rfl) dX8_minute_8 ⟨(Nat.le_of_ble_eq_true rfl), (Nat.le_of_ble_eq_true rfl)⟩ rfl (fun r w1 H locs hQ V => ?_)
  rcases hQ with ⟨rfl, rfl, f_1⟩ | ⟨rfl, rfl, f_2⟩
  · have V : gW D T A s [(o, .inr (8, [.int (nI 0), .ref g1, .ref g2, .ref g3, .ref g4, .int (nI tp), .int w6, .int w7, .int w8, .int w9, .int w10, .int w11, .int w12, .int w13, .int w14, .ref g15, .int w16, .ref g17, .int w18, .int w19, .ref g20, .int w21, .ref g22, .ref g23, .ref g24, .int w25, .int w26, .int w27, .ref g28, .ref g29, .int w30, .ref g31, .ref g32, .ref g33])), (g1, .inl (T 0, 282, .inl fa)), (g15, .inl (T 0, 10, .inl fh))] H locs := V _ [0, 0] rfl rfl rfl (by decide +kernel) rfl
    show W p l e _ s m args below meth c H locs _ _ _ (F0 m 11 ls [.int (nI 1)])
    refine lv_if_eq (tgt := 29) hx hb dX8_minute_11 (by decide) (fun c => absurd (show (nI 1) = 0 from c) (by decide +kernel)) (fun _ => ?_)
    refine lv_aload_n hx hb dX8_minute_14 rfl (lv_at hl 0 rfl) ?_
    refine lv_iload_n hx hb dX8_minute_15 rfl (lv_at hl 2 rfl) ?_
    refine lv_i2l (v := sk.toInt64) hx hb dX8_minute_16 rfl ?_
    refine g_callVU (nA := 1) hC V hl.1 (m_isSet_f l D T sk n o (nI 0) g1 g2 g3 g4 tp w6 w7 w8 w9 w10 w11 w12 w13 w14 g15 w16 g17 w18 w19 g20 w21 g22 g23 g24 w25 w26 w27 g28 g29 w30 g31 g32 g33 fa h_a) w_1118 w_1120 w_s49 w_9 w_1121 (by decide +kernel) rfl ⟨(Nat.le_of_ble_eq_true rfl), (Nat.le_of_ble_eq_true rfl)⟩ 0 (ci := 8) rfl rfl [0, 1] rfl rfl (Nat.le_of_ble_eq_true rfl) dX8_minute_17 ⟨(Nat.le_of_ble_eq_true rfl), (Nat.le_of_ble_eq_true rfl)⟩ rfl (fun r w1 H locs hQ V => ?_)
    rcases hQ with ⟨rfl, rfl, f_3⟩ | ⟨rfl, rfl, f_4⟩
    · have V : gW D T A s [(o, .inr (8, [.int (nI 0), .ref g1, .ref g2, .ref g3, .ref g4, .int (nI tp), .int w6, .int w7, .int w8, .int w9, .int w10, .int w11, .int w12, .int w13, .int w14, .ref g15, .int w16, .ref g17, .int w18, .int w19, .ref g20, .int w21, .ref g22, .ref g23, .ref g24, .int w25, .int w26, .int w27, .ref g28, .ref g29, .int w30, .ref g31, .ref g32, .ref g33])), (g1, .inl (T 0, 282, .inl fa)), (g15, .inl (T 0, 10, .inl fh))] H locs := V _ [0, 0] rfl rfl rfl (by decide +kernel) rfl
      show W p l e _ s m args below meth c H locs _ _ _ (F0 m 20 ls [.int (nI 1)])
      refine lv_if_eq (tgt := 29) hx hb dX8_minute_20 (by decide) (fun c => absurd (show (nI 1) = 0 from c) (by decide +kernel)) (fun _ => ?_)
      refine lv_iload_n hx hb dX8_minute_23 rfl (lv_at hl 1 rfl) ?_
      refine lv_iload_n hx hb dX8_minute_24 rfl (lv_at hl 2 rfl) ?_
      refine lv_iand hx hb dX8_minute_25 ?_
      refine lv_if_eq (tgt := 32) hx hb dX8_minute_26 (by decide) (fun c_5 => ?_) (fun c_5 => ?_)
      · skip
        refine lv_aload_n hx hb dX8_minute_32 rfl (lv_at hl 0 rfl) ?_
        refine g_get hC V (ci := 8) uwX8 0 rfl rfl 1 (by decide) w_913 rfl rfl dX8_minute_33 ?_
        refine lv_iconst (v := (nI 1)) hx hb dX8_minute_36 (by decide +kernel) ?_
        refine g_iald hC V 1 rfl (vp_in_nI (by decide) (by decide)) (v := (fa 1)) (congrArg _ (nI_clamp (by decide))) dX8_minute_37 ?_
        refine lv_sipush (v := (nI 9999)) hx hb dX8_minute_38 (by decide +kernel) ?_
        refine lv_icmp_ne (tgt := 49) hx hb dX8_minute_41 (by decide) (fun c_6 => ?_) (fun c_6 => ?_)
        · skip
          refine lv_aload_n hx hb dX8_minute_49 rfl (lv_at hl 0 rfl) ?_
          refine lv_iload_n hx hb dX8_minute_50 rfl (lv_at hl 1 rfl) ?_
          refine lv_iload_n hx hb dX8_minute_51 rfl (lv_at hl 2 rfl) ?_
          refine lv_iconst (v := (-1)) hx hb dX8_minute_52 (by decide +kernel) ?_
          refine lv_iconst (v := (nI 0)) hx hb dX8_minute_53 (by decide +kernel) ?_
          refine g_callV (wr := []) (nA := 4) hC V hl.1 (m_goes_f l D T n o pl sk (-1) (nI 0) (nI 0) g1 g2 g3 g4 tp w6 w7 w8 w9 w10 w11 w12 w13 w14 g15 w16 g17 w18 w19 g20 w21 g22 g23 g24 w25 w26 w27 g28 g29 w30 g31 g32 g33 fa fh h_a) w_1122 w_1124 w_s50 w_9 w_1125 (by decide +kernel) rfl ⟨(Nat.le_of_ble_eq_true rfl), (Nat.le_of_ble_eq_true rfl)⟩ 0 (ci := 8) rfl rfl [0, 1, 2] [] rfl rfl rfl rfl (by decide) (Nat.le_of_ble_eq_true rfl) dX8_minute_54 ⟨(Nat.le_of_ble_eq_true rfl), (Nat.le_of_ble_eq_true rfl)⟩ rfl (fun r w1 H locs hQ V => ?_)
          obtain ⟨z_7, bm_8, ga_9, gh_10, rfl, rfl, f_11, f_12, f_13, f_14⟩ := hQ
          have V : gW D T A s [(o, .inr (8, [.int (nI 0), .ref g1, .ref g2, .ref g3, .ref g4, .int (nI tp), .int w6, .int w7, .int w8, .int w9, .int w10, .int w11, .int w12, .int w13, .int w14, .ref g15, .int bm_8, .ref g17, .int w18, .int w19, .ref g20, .int w21, .ref g22, .ref g23, .ref g24, .int w25, .int w26, .int w27, .ref g28, .ref g29, .int w30, .ref g31, .ref g32, .ref g33])), (g1, .inl (T 0, 282, .inl ga_9)), (g15, .inl (T 0, 10, .inl gh_10))] H locs := V
          show W p l e _ s m args below meth c H locs _ _ _ (F0 m 57 ls [.int z_7])
          have hga_9 : MS n fa ga_9 := ms_tr (by assumption) f_11
          exact g_iret (Qr := (q_m_minute_f T n o pl sk w0 g1 g2 g3 g4 tp w6 w7 w8 w9 w10 w11 w12 w13 w14 g15 w16 g17 w18 w19 g20 w21 g22 g23 g24 w25 w26 w27 g28 g29 w30 g31 g32 g33 fa fh)) hC V ⟨(Nat.le_of_ble_eq_true rfl), (Nat.le_of_ble_eq_true rfl)⟩ ⟨z_7, bm_8, ga_9, gh_10, rfl, rfl, f_11, (f_12.trans (mn_y ⟨by assumption, by assumption, by assumption⟩ c_6).1), (f_13.trans (mn_y ⟨by assumption, by assumption, by assumption⟩ c_6).2)⟩ dX8_minute_57
        · skip
          refine lv_bipush (v := (-5)) hx hb dX8_minute_44 (by decide +kernel) ?_
          refine lv_goto (tgt := 57) hx hb dX8_minute_46 (by decide) ?_
          exact g_iret (Qr := (q_m_minute_f T n o pl sk w0 g1 g2 g3 g4 tp w6 w7 w8 w9 w10 w11 w12 w13 w14 g15 w16 g17 w18 w19 g20 w21 g22 g23 g24 w25 w26 w27 g28 g29 w30 g31 g32 g33 fa fh)) hC V ⟨(Nat.le_of_ble_eq_true rfl), (Nat.le_of_ble_eq_true rfl)⟩ ⟨(-5), w16, fa, fh, rfl, rfl, ms0, (mn_5 ⟨by assumption, by assumption, by assumption⟩ c_6).1, (mn_5 ⟨by assumption, by assumption, by assumption⟩ c_6).2⟩ dX8_minute_57
      · skip
        refine lv_bipush (v := (-3)) hx hb dX8_minute_29 (by decide +kernel) ?_
        exact g_iret (Qr := (q_m_minute_f T n o pl sk w0 g1 g2 g3 g4 tp w6 w7 w8 w9 w10 w11 w12 w13 w14 g15 w16 g17 w18 w19 g20 w21 g22 g23 g24 w25 w26 w27 g28 g29 w30 g31 g32 g33 fa fh)) hC V ⟨(Nat.le_of_ble_eq_true rfl), (Nat.le_of_ble_eq_true rfl)⟩ ⟨(-3), w16, fa, fh, rfl, rfl, ms0, (mn_3 (f := fa) (by first | exact fun q => absurd q.1 (by assumption) | exact fun q => absurd q.2.1 (by assumption) | exact fun q => absurd q.2.2 (by assumption))).1, (mn_3 (f := fa) (by first | exact fun q => absurd q.1 (by assumption) | exact fun q => absurd q.2.1 (by assumption) | exact fun q => absurd q.2.2 (by assumption))).2⟩ dX8_minute_31
    · have V : gW D T A s [(o, .inr (8, [.int (nI 0), .ref g1, .ref g2, .ref g3, .ref g4, .int (nI tp), .int w6, .int w7, .int w8, .int w9, .int w10, .int w11, .int w12, .int w13, .int w14, .ref g15, .int w16, .ref g17, .int w18, .int w19, .ref g20, .int w21, .ref g22, .ref g23, .ref g24, .int w25, .int w26, .int w27, .ref g28, .ref g29, .int w30, .ref g31, .ref g32, .ref g33])), (g1, .inl (T 0, 282, .inl fa)), (g15, .inl (T 0, 10, .inl fh))] H locs := V _ [0, 0] rfl rfl rfl (by decide +kernel) rfl
      show W p l e _ s m args below meth c H locs _ _ _ (F0 m 20 ls [.int (nI 0)])
      refine lv_if_eq (tgt := 29) hx hb dX8_minute_20 (by decide) (fun _ => ?_) (fun c => absurd (show (nI 0) = 0 by decide +kernel) c)
      refine lv_bipush (v := (-3)) hx hb dX8_minute_29 (by decide +kernel) ?_
      exact g_iret (Qr := (q_m_minute_f T n o pl sk w0 g1 g2 g3 g4 tp w6 w7 w8 w9 w10 w11 w12 w13 w14 g15 w16 g17 w18 w19 g20 w21 g22 g23 g24 w25 w26 w27 g28 g29 w30 g31 g32 g33 fa fh)) hC V ⟨(Nat.le_of_ble_eq_true rfl), (Nat.le_of_ble_eq_true rfl)⟩ ⟨(-3), w16, fa, fh, rfl, rfl, ms0, (mn_3 (f := fa) (by first | exact fun q => absurd q.1 (by assumption) | exact fun q => absurd q.2.1 (by assumption) | exact fun q => absurd q.2.2 (by assumption))).1, (mn_3 (f := fa) (by first | exact fun q => absurd q.1 (by assumption) | exact fun q => absurd q.2.1 (by assumption) | exact fun q => absurd q.2.2 (by assumption))).2⟩ dX8_minute_31
  · have V : gW D T A s [(o, .inr (8, [.int (nI 0), .ref g1, .ref g2, .ref g3, .ref g4, .int (nI tp), .int w6, .int w7, .int w8, .int w9, .int w10, .int w11, .int w12, .int w13, .int w14, .ref g15, .int w16, .ref g17, .int w18, .int w19, .ref g20, .int w21, .ref g22, .ref g23, .ref g24, .int w25, .int w26, .int w27, .ref g28, .ref g29, .int w30, .ref g31, .ref g32, .ref g33])), (g1, .inl (T 0, 282, .inl fa)), (g15, .inl (T 0, 10, .inl fh))] H locs := V _ [0, 0] rfl rfl rfl (by decide +kernel) rfl
    show W p l e _ s m args below meth c H locs _ _ _ (F0 m 11 ls [.int (nI 0)])
    refine lv_if_eq (tgt := 29) hx hb dX8_minute_11 (by decide) (fun _ => ?_) (fun c => absurd (show (nI 0) = 0 by decide +kernel) c)
    refine lv_bipush (v := (-3)) hx hb dX8_minute_29 (by decide +kernel) ?_
    exact g_iret (Qr := (q_m_minute_f T n o pl sk w0 g1 g2 g3 g4 tp w6 w7 w8 w9 w10 w11 w12 w13 w14 g15 w16 g17 w18 w19 g20 w21 g22 g23 g24 w25 w26 w27 g28 g29 w30 g31 g32 g33 fa fh)) hC V ⟨(Nat.le_of_ble_eq_true rfl), (Nat.le_of_ble_eq_true rfl)⟩ ⟨(-3), w16, fa, fh, rfl, rfl, ms0, (mn_3 (f := fa) (by first | exact fun q => absurd q.1 (by assumption) | exact fun q => absurd q.2.1 (by assumption) | exact fun q => absurd q.2.2 (by assumption))).1, (mn_3 (f := fa) (by first | exact fun q => absurd q.1 (by assumption) | exact fun q => absurd q.2.1 (by assumption) | exact fun q => absurd q.2.2 (by assumption))).2⟩ dX8_minute_31

/-! CUSTOM -/
abbrev cuStr (f : Nat → Int32) (i : Nat) : Prop := f (64 + i) < f (54 + i) ∧ warmP f i
abbrev cuPul (f : Nat → Int32) (i : Nat) : Prop := ¬ f (44 + (f (84 + i)).toNatClampNeg) < f (24 + (f (84 + i)).toNatClampNeg) + f (4 + i)
def cuSk (f : Nat → Int32) (lz : Int32) : Nat → Int32
  | 0 => nI 0
  | k + 1 => if nI k = lz then cuSk f lz k else if cuStr f k then cuSk f lz k ||| (nI 1 <<< (nI k &&& 31)) else cuSk f lz k
def cuPl (f : Nat → Int32) (lz : Int32) : Nat → Int32
  | 0 => nI 0
  | k + 1 => if nI k = lz then cuPl f lz k else if cuStr f k then cuPl f lz k else if cuPul f k then cuPl f lz k ||| (nI 1 <<< (nI k &&& 31)) else cuPl f lz k
theorem cS_lz {f : Nat → Int32} {lz : Int32} {k : Nat} (h : nI k = lz) : cuSk f lz k = cuSk f lz (k + 1) ∧ cuPl f lz k = cuPl f lz (k + 1) := ⟨(if_pos h).symm, (if_pos h).symm⟩
theorem cS_y {f : Nat → Int32} {lz : Int32} {k : Nat} (h : ¬ nI k = lz) (hs : cuStr f k) : cuSk f lz k ||| (nI 1 <<< (nI k &&& 31)) = cuSk f lz (k + 1) ∧ cuPl f lz k = cuPl f lz (k + 1) := ⟨((if_neg h).trans (if_pos hs)).symm, ((if_neg h).trans (if_pos hs)).symm⟩
theorem cP_y {f : Nat → Int32} {lz : Int32} {k : Nat} (h : ¬ nI k = lz) (hs : ¬ cuStr f k) (hp : cuPul f k) : cuSk f lz k = cuSk f lz (k + 1) ∧ cuPl f lz k ||| (nI 1 <<< (nI k &&& 31)) = cuPl f lz (k + 1) := ⟨((if_neg h).trans (if_neg hs)).symm, ((if_neg h).trans ((if_neg hs).trans (if_pos hp))).symm⟩
theorem cP_n {f : Nat → Int32} {lz : Int32} {k : Nat} (h : ¬ nI k = lz) (hs : ¬ cuStr f k) (hp : ¬ cuPul f k) : cuSk f lz k = cuSk f lz (k + 1) ∧ cuPl f lz k = cuPl f lz (k + 1) := ⟨((if_neg h).trans (if_neg hs)).symm, ((if_neg h).trans ((if_neg hs).trans (if_neg hp))).symm⟩
theorem ctr_y {k : Nat} {f g7 g6 g3 g4 g5 : Nat → Int32} (e7 : g7 k = f (64 + k)) (e6 : g6 k = f (54 + k)) (e3 : g3 k = f (24 + k)) (e4 : g4 k = f (34 + k)) (e5 : g5 k = f (44 + k)) (h2 : g7 k < g6 k) (h3 : ¬ g3 k < g4 k) (h4 : ¬ g5 k < g3 k) : cuStr f k := by
  rw [e7, e6] at h2; rw [e3, e4] at h3; rw [e5, e3] at h4
  exact ⟨h2, h3, h4⟩
theorem ctr_n {k : Nat} {f g7 g6 g3 g4 g5 : Nat → Int32} (e7 : g7 k = f (64 + k)) (e6 : g6 k = f (54 + k)) (e3 : g3 k = f (24 + k)) (e4 : g4 k = f (34 + k)) (e5 : g5 k = f (44 + k)) (h : ¬ g7 k < g6 k ∨ g3 k < g4 k ∨ g5 k < g3 k) : ¬ cuStr f k := by
  rw [e7, e6, e3, e4, e5] at h
  rintro ⟨a, b, c⟩
  rcases h with h | h | h
  · exact h a
  · exact b h
  · exact c h
theorem bea {k jt : Nat} {f : Nat → Int32} {a5 a3 b : Int32} (e : f (84 + k) = nI jt) (hj : jt < 100) (e5 : a5 = f (44 + jt)) (e3 : a3 = f (24 + jt)) (e1 : b = f (4 + k)) : (¬ a5 < a3 + b) ↔ cuPul f k := by
  unfold cuPul; rw [e, nI_clamp (by omega), e5, e3, e1]
theorem bea_m {k jt ja jb : Nat} {f : Nat → Int32} (e : f (84 + k) = nI jt) (hj : jt < 100) (e3 : f (24 + jt) = nI ja) (e1 : f (4 + k) = nI jb) : (¬ f (44 + jt) < nI (ja + jb)) ↔ cuPul f k := by
  unfold cuPul; rw [e, nI_clamp (by omega), e3, e1, nI_add]
/-- the numbers, and the strokes that counted, behind so many MINUTES of CUSTOM -/
def cuI (n : Nat) (f : Nat → Int32) (lz : Int32) : Nat → Nat → Int32
  | 0 => f
  | k + 1 => goF n (cuI n f lz k) (cuPl (cuI n f lz k) lz n) (cuSk (cuI n f lz k) lz n) (-1) (nI 0)
def cuC (n : Nat) (f : Nat → Int32) (lz : Int32) : Nat → Int32
  | 0 => nI 0
  | k + 1 => cuC n f lz k + goC (cuI n f lz k) (cuSk (cuI n f lz k) lz n) n
theorem ibf_bd (x : Int32) : bd (ibf x) 201 := by
  unfold ibf
  split
  · exact bd_nI (by decide)
  · split
    · exact bd_nI (by decide)
    · rename_i h1 h2
      exact ib_1 (Int32.not_lt.mp h1) (Int32.not_lt.mp h2)
theorem goF_o {n j : Nat} {f : Nat → Int32} {pl sk fi mr : Int32} (hn : n ≤ 10) (h1 : j ≠ 1) (h2 : j < 24 ∨ (34 ≤ j ∧ j < 64) ∨ 84 ≤ j) : goF n f pl sk fi mr j = f j := by
  unfold goF; rw [up_other h1]; exact md_other hn (Nat.le_refl _) h2
theorem goF_24 {n i : Nat} {f : Nat → Int32} {pl sk fi mr : Int32} (hn : n ≤ 10) (hi : i < n) : goF n f pl sk fi mr (24 + i) = hNw n f pl fi mr i := by
  unfold goF md; rw [up_other (by omega), if_pos (by omega), show 24 + i - 24 = i by omega]
theorem goF_64 {n i : Nat} {f : Nat → Int32} {pl sk fi mr : Int32} (hn : n ≤ 10) (hi : i < n) : goF n f pl sk fi mr (64 + i) = st2 n f pl sk fi mr i := by
  unfold goF md; rw [up_other (by omega), if_neg (by omega), if_pos (by omega), show 64 + i - 64 = i by omega]
theorem MI_go {n : Nat} {f : Nat → Int32} {pl sk fi mr : Int32} (h : MI n f) : MI n (goF n f pl sk fi mr) := by
  have hn := h.1
  refine ⟨hn, (goF_o hn (by decide) (by omega)).trans h.2.1, by rw [goF_o hn (by decide) (by omega)]; exact h.2.2.1, fun i hi => ?_⟩
  rw [goF_o hn (by omega) (by omega), goF_24 hn hi, goF_o (j := 54 + i) hn (by omega) (by omega), goF_64 hn hi, goF_o (j := 84 + i) hn (by omega) (by omega), goF_o (j := 4 + i) hn (by omega) (by omega)]
  refine ⟨mi_cool h hi, bd_le (ibf_bd _) (by decide), mi_need h hi, ?_, mi_to h hi, mi_blast h hi⟩
  obtain ⟨a, ha, ea⟩ := mi_has h hi
  obtain ⟨b, hb, eb⟩ := mi_need h hi
  obtain ⟨c, hc, ec⟩ := mi_lost h
  have hs : bd (st1 f sk i) 32 := by
    unfold st1
    split
    · rename_i q
      have q2 := q.2.1
      rw [ea, eb] at q2
      have := b_lt (by omega) (by omega) q2
      rw [ea, nI_add]; exact bd_nI (by omega)
    · rw [ea]; exact bd_nI ha
  obtain ⟨d, hd, ed⟩ := hs
  unfold st2
  split
  · split
    · rename_i q
      rw [ec, ed] at q
      have := b_lt (by omega) (by omega) q
      rw [ec, ed, nI_sub (by omega)]; exact bd_nI (by omega)
    · exact bd_nI (by decide)
  · rw [ed]; exact bd_nI hd
theorem cuI_mi {n : Nat} {f : Nat → Int32} {lz : Int32} (h : MI n f) : ∀ k, MI n (cuI n f lz k)
  | 0 => h
  | k + 1 => MI_go (cuI_mi h k)
theorem cuI_o {n j : Nat} {f : Nat → Int32} {lz : Int32} (hn : n ≤ 10) (h1 : j ≠ 1) (h2 : j < 24 ∨ (34 ≤ j ∧ j < 64) ∨ 84 ≤ j) : ∀ k, cuI n f lz k j = f j
  | 0 => rfl
  | k + 1 => (goF_o hn h1 h2).trans (cuI_o hn h1 h2 k)
theorem cuI_1 {n k : Nat} {f : Nat → Int32} {lz : Int32} : cuI n f lz (k + 1) 1 = cuI n f lz k 1 + nI 1 := by
  show goF n (cuI n f lz k) _ _ _ _ 1 = _
  unfold goF; rw [up_same]

def q_s_bears_f (T : Nat → ClassId) (a0 : Nat) (j : Nat) (b : Int32) (an : Nat) (am : Int32) (al : Int32) (ao : Int32) (au : Int32) (a1 : Nat) (a2 : Nat) (a3 : Nat) (a4 : Nat) (a5 : Nat) (a6 : Nat) (a7 : Nat) (a8 : Nat) (a9 : Nat) (a10 : Nat) (af3 : Nat → Int32) (af5 : Nat → Int32) : Option Value → va_W → Prop := fun rr ww => (rr = some (.int (nI 1)) ∧ ww = [(a0, .inr (5, [.int (nI an), .int am, .int al, .int ao, .int au, .ref a1, .ref a2, .ref a3, .ref a4, .ref a5, .ref a6, .ref a7, .ref a8, .ref a9, .ref a10])), (a3, .inl (T 0, 10, .inl af3)), (a5, .inl (T 0, 10, .inl af5))] ∧ ¬ af5 j < af3 j + b) ∨ (rr = some (.int (nI 0)) ∧ ww = [(a0, .inr (5, [.int (nI an), .int am, .int al, .int ao, .int au, .ref a1, .ref a2, .ref a3, .ref a4, .ref a5, .ref a6, .ref a7, .ref a8, .ref a9, .ref a10])), (a3, .inl (T 0, 10, .inl af3)), (a5, .inl (T 0, 10, .inl af5))] ∧ af5 j < af3 j + b)
set_option maxHeartbeats 4000000 in
set_option maxRecDepth 100000 in
theorem s_bears_f (l : Launch) (D : va_G) (T : Nat → ClassId) (a0 : Nat) (j : Nat) (b : Int32) (an : Nat) (am : Int32) (al : Int32) (ao : Int32) (au : Int32) (a1 : Nat) (a2 : Nat) (a3 : Nat) (a4 : Nat) (a5 : Nat) (a6 : Nat) (a7 : Nat) (a8 : Nat) (a9 : Nat) (a10 : Nat) (af3 : Nat → Int32) (af5 : Nat → Int32) (h_j : j < 10) : Ct l yX5_bears cX5_bears 3 (some .boolean) 0 0 0 D T [.ref a0, .int (nI j), .int b] [(a0, .inr (5, [.int (nI an), .int am, .int al, .int ao, .int au, .ref a1, .ref a2, .ref a3, .ref a4, .ref a5, .ref a6, .ref a7, .ref a8, .ref a9, .ref a10])), (a3, .inl (T 0, 10, .inl af3)), (a5, .inl (T 0, 10, .inl af5))] (q_s_bears_f T a0 j b an am al ao au a1 a2 a3 a4 a5 a6 a7 a8 a9 a10 af3 af5) := by
  refine Ct.of (cc := cX5_bears) (maxL := 3) (ret := (some .boolean)) (by decide) (Nat.le_of_ble_eq_true rfl) ?_
  intro p e s m args below meth c A ls hC hnm V hl
  obtain ⟨hx, hb, hr, hml, hown, hts, hlocks⟩ := id hC
  generalize hH : s.heap = H at V ⊢
  clear hH
  have hl : lv_has ls 3 [(0, .ref a0), (1, .int (nI j)), (2, .int b)] := hl
  generalize hlo : ([] : List Loc) = locs at V ⊢
  clear hlo
  refine lv_aload_n hx hb dX5_bears_0 rfl (lv_at hl 0 rfl) ?_
  refine g_get hC V (ci := 5) uwX5 0 rfl rfl 7 (by decide) w_62 rfl rfl dX5_bears_1 ?_
  refine lv_iload_n hx hb dX5_bears_4 rfl (lv_at hl 1 rfl) ?_
  refine g_iald hC V 1 rfl (vp_in_nI (by omega) (by omega)) (v := (af3 j)) (congrArg _ (nI_clamp (by omega))) dX5_bears_5 ?_
  refine lv_iload_n hx hb dX5_bears_6 rfl (lv_at hl 2 rfl) ?_
  refine lv_iadd hx hb dX5_bears_7 ?_
  refine lv_aload_n hx hb dX5_bears_8 rfl (lv_at hl 0 rfl) ?_
  refine g_get hC V (ci := 5) uwX5 0 rfl rfl 9 (by decide) w_70 rfl rfl dX5_bears_9 ?_
  refine lv_iload_n hx hb dX5_bears_12 rfl (lv_at hl 1 rfl) ?_
  refine g_iald hC V 2 rfl (vp_in_nI (by omega) (by omega)) (v := (af5 j)) (congrArg _ (nI_clamp (by omega))) dX5_bears_13 ?_
  refine lv_icmp_gt (tgt := 21) hx hb dX5_bears_14 (by decide) (fun c_1 => ?_) (fun c_1 => ?_)
  · skip
    refine lv_iconst (v := (nI 0)) hx hb dX5_bears_21 (by decide +kernel) ?_
    exact g_zret (Qr := (q_s_bears_f T a0 j b an am al ao au a1 a2 a3 a4 a5 a6 a7 a8 a9 a10 af3 af5)) hC V ⟨(Nat.le_of_ble_eq_true rfl), (Nat.le_of_ble_eq_true rfl)⟩ (by first | decide +kernel | exact rfl) (.inr ⟨rfl, rfl, (by assumption)⟩) dX5_bears_22
  · skip
    refine lv_iconst (v := (nI 1)) hx hb dX5_bears_17 (by decide +kernel) ?_
    refine lv_goto (tgt := 22) hx hb dX5_bears_18 (by decide) ?_
    exact g_zret (Qr := (q_s_bears_f T a0 j b an am al ao au a1 a2 a3 a4 a5 a6 a7 a8 a9 a10 af3 af5)) hC V ⟨(Nat.le_of_ble_eq_true rfl), (Nat.le_of_ble_eq_true rfl)⟩ (by first | decide +kernel | exact rfl) (.inl ⟨rfl, rfl, (by assumption)⟩) dX5_bears_22

def q_s_byCustom_f (T : Nat → ClassId) (fa : Nat → Int32) (lz : Int32) (a0 : Nat) (idl : Int32) (an : Nat) (am : Int32) (al : Int32) (ao : Int32) (au : Int32) (a1 : Nat) (a2 : Nat) (a3 : Nat) (a4 : Nat) (a5 : Nat) (a6 : Nat) (a7 : Nat) (a8 : Nat) (a9 : Nat) (a10 : Nat) (af1 : Nat → Int32) (af2 : Nat → Int32) (af3 : Nat → Int32) (af4 : Nat → Int32) (af5 : Nat → Int32) (af6 : Nat → Int32) (af7 : Nat → Int32) (af8 : Nat → Int32) (af9 : Nat → Int32) (af10 : Nat → Int32) : Option Value → va_W → Prop := fun rr ww => (∃ (z : Int32) (u : Int32) (g3 : Nat → Int32) (g7 : Nat → Int32) (g8 : Nat → Int32) (g10 : Nat → Int32), rr = some (.int z) ∧ ww = [(a0, .inr (5, [.int (nI an), .int (am + (nI 1)), .int al, .int ao, .int u, .ref a1, .ref a2, .ref a3, .ref a4, .ref a5, .ref a6, .ref a7, .ref a8, .ref a9, .ref a10])), (a1, .inl (T 0, 10, .inl af1)), (a2, .inl (T 0, 10, .inl af2)), (a3, .inl (T 0, 10, .inl g3)), (a4, .inl (T 0, 10, .inl af4)), (a5, .inl (T 0, 10, .inl af5)), (a6, .inl (T 0, 10, .inl af6)), (a7, .inl (T 0, 10, .inl g7)), (a8, .inl (T 0, 10, .inl g8)), (a9, .inl (T 0, 10, .inl af9)), (a10, .inl (T 0, 10, .inl g10))] ∧ z = goC fa (cuSk fa lz an) an ∧ (∀ i, i < an → g3 i = hNw an fa (cuPl fa lz an) (-1) (nI 0) i) ∧ (∀ i, i < an → g7 i = st2 an fa (cuPl fa lz an) (cuSk fa lz an) (-1) (nI 0) i) ∧ u = au + goB an fa (cuPl fa lz an) (cuSk fa lz an) (-1) (nI 0) an)
set_option maxHeartbeats 4000000 in
set_option maxRecDepth 100000 in
theorem s_byCustom_f (l : Launch) (D : va_G) (T : Nat → ClassId) (fa : Nat → Int32) (lz : Int32) (a0 : Nat) (idl : Int32) (an : Nat) (am : Int32) (al : Int32) (ao : Int32) (au : Int32) (a1 : Nat) (a2 : Nat) (a3 : Nat) (a4 : Nat) (a5 : Nat) (a6 : Nat) (a7 : Nat) (a8 : Nat) (a9 : Nat) (a10 : Nat) (af1 : Nat → Int32) (af2 : Nat → Int32) (af3 : Nat → Int32) (af4 : Nat → Int32) (af5 : Nat → Int32) (af6 : Nat → Int32) (af7 : Nat → Int32) (af8 : Nat → Int32) (af9 : Nat → Int32) (af10 : Nat → Int32) (h_n : an ≤ 10) (h_t : ∀ i, i < an → bd (af9 i) an) (h_s1 : ∀ i, i < an → af1 i = fa (4 + i)) (h_s2 : ∀ i, i < an → af2 i = fa (14 + i)) (h_s3 : ∀ i, i < an → af3 i = fa (24 + i)) (h_s4 : ∀ i, i < an → af4 i = fa (34 + i)) (h_s5 : ∀ i, i < an → af5 i = fa (44 + i)) (h_s6 : ∀ i, i < an → af6 i = fa (54 + i)) (h_s7 : ∀ i, i < an → af7 i = fa (64 + i)) (h_s9 : ∀ i, i < an → af9 i = fa (84 + i)) (h_o : ao = fa 2) (h_a : MI an fa) (h_il : ∀ i, i < an → (bitP idl i ↔ nI i = lz)) : Ct l yX5_passByCustom cX5_passByCustom 7 (some .int) 3 0 0 D T [.ref a0, .int idl, .int (-1), .int (nI 0)] [(a0, .inr (5, [.int (nI an), .int am, .int al, .int ao, .int au, .ref a1, .ref a2, .ref a3, .ref a4, .ref a5, .ref a6, .ref a7, .ref a8, .ref a9, .ref a10])), (a1, .inl (T 0, 10, .inl af1)), (a2, .inl (T 0, 10, .inl af2)), (a3, .inl (T 0, 10, .inl af3)), (a4, .inl (T 0, 10, .inl af4)), (a5, .inl (T 0, 10, .inl af5)), (a6, .inl (T 0, 10, .inl af6)), (a7, .inl (T 0, 10, .inl af7)), (a8, .inl (T 0, 10, .inl af8)), (a9, .inl (T 0, 10, .inl af9)), (a10, .inl (T 0, 10, .inl af10))] (q_s_byCustom_f T fa lz a0 idl an am al ao au a1 a2 a3 a4 a5 a6 a7 a8 a9 a10 af1 af2 af3 af4 af5 af6 af7 af8 af9 af10) := by
  refine Ct.of (cc := cX5_passByCustom) (maxL := 7) (ret := (some .int)) (by decide) (Nat.le_of_ble_eq_true rfl) ?_
  intro p e s m args below meth c A ls hC hnm V hl
  obtain ⟨hx, hb, hr, hml, hown, hts, hlocks⟩ := id hC
  generalize hH : s.heap = H at V ⊢
  clear hH
  have hl : lv_has ls 7 [(0, .ref a0), (1, .int idl), (2, .int (-1)), (3, .int (nI 0))] := hl
  generalize hlo : ([] : List Loc) = locs at V ⊢
  clear hlo
  refine lv_iconst (v := (nI 0)) hx hb dX5_passByCustom_0 (by decide +kernel) ?_
  refine lv_istore (lv' := [(4, .int (nI 0)), (0, .ref a0), (1, .int idl), (2, .int (-1)), (3, .int (nI 0))]) hx hb dX5_passByCustom_1 hl (by decide) rfl (fun ls hl => ?_)
  refine lv_iconst (v := (nI 0)) hx hb dX5_passByCustom_3 (by decide +kernel) ?_
  refine lv_istore (lv' := [(5, .int (nI 0)), (4, .int (nI 0)), (0, .ref a0), (1, .int idl), (2, .int (-1)), (3, .int (nI 0))]) hx hb dX5_passByCustom_4 hl (by decide) rfl (fun ls hl => ?_)
  refine lv_iconst (v := (nI 0)) hx hb dX5_passByCustom_6 (by decide +kernel) ?_
  refine lv_istore (lv' := [(6, .int (nI 0)), (5, .int (nI 0)), (4, .int (nI 0)), (0, .ref a0), (1, .int idl), (2, .int (-1)), (3, .int (nI 0))]) hx hb dX5_passByCustom_7 hl (by decide) rfl (fun ls hl => ?_)
  have L_1 : ∀ (fu : Nat) (k9 : Nat) (sv : Int32) (pv : Int32), k9 ≤ an → sv = cuSk fa lz k9 → pv = cuPl fa lz k9 → an - k9 < fu → ∀ (H : Heap) (locs : List Loc) (ls : Array Slot), gW D T A s [(a0, .inr (5, [.int (nI an), .int am, .int al, .int ao, .int au, .ref a1, .ref a2, .ref a3, .ref a4, .ref a5, .ref a6, .ref a7, .ref a8, .ref a9, .ref a10])), (a1, .inl (T 0, 10, .inl af1)), (a2, .inl (T 0, 10, .inl af2)), (a3, .inl (T 0, 10, .inl af3)), (a4, .inl (T 0, 10, .inl af4)), (a5, .inl (T 0, 10, .inl af5)), (a6, .inl (T 0, 10, .inl af6)), (a7, .inl (T 0, 10, .inl af7)), (a8, .inl (T 0, 10, .inl af8)), (a9, .inl (T 0, 10, .inl af9)), (a10, .inl (T 0, 10, .inl af10))] H locs → lv_has ls 7 [(6, .int (nI k9)), (5, .int pv), (4, .int sv), (0, .ref a0), (1, .int idl), (2, .int (-1)), (3, .int (nI 0))] → W p l e (rmD 3 0 0) s m args below meth c H locs 0 0 (MQ below (gQ D A (q_s_byCustom_f T fa lz a0 idl an am al ao au a1 a2 a3 a4 a5 a6 a7 a8 a9 a10 af1 af2 af3 af4 af5 af6 af7 af8 af9 af10)) args s 0 0 A) (F0 m 9 ls []) := by
    intro fu_9
    induction fu_9 with
    | zero => intro k9 sv pv hk9 hsv hpv hmu; exact absurd hmu (Nat.not_lt_zero _)
    | succ fu_9 ih_9 =>
      intro k9 sv pv hk9 hsv hpv hmu_9 H locs ls V hl
      refine lv_iload hx hb dX5_passByCustom_9 (lv_at hl 0 rfl) ?_
      refine lv_aload_n hx hb dX5_passByCustom_11 rfl (lv_at hl 3 rfl) ?_
      refine g_get hC V (ci := 5) uwX5 0 rfl rfl 0 (by decide) w_33 rfl rfl dX5_passByCustom_12 ?_
      refine lv_icmp_ge (tgt := 87) hx hb dX5_passByCustom_15 (by decide) (fun c_2 => ?_) (fun c_2 => ?_)
      · skip
        have c_2 := b_le (by omega) (by omega) c_2
        have hsn : sv = cuSk fa lz an := by rw [hsv]; congr 1; omega
        have hpn : pv = cuPl fa lz an := by rw [hpv]; congr 1; omega
        refine lv_aload_n hx hb dX5_passByCustom_87 rfl (lv_at hl 3 rfl) ?_
        refine lv_iload_n hx hb dX5_passByCustom_88 rfl (lv_at hl 5 rfl) ?_
        refine g_callVU (nA := 1) hC V hl.1 (s_isSmith l D T a0 (-1) an am al ao au a1 a2 a3 a4 a5 a6 a7 a8 a9 a10 (by first | assumption | omega)) w_486 w_426 w_427 w_3 w_428 (by decide +kernel) rfl ⟨(Nat.le_of_ble_eq_true rfl), (Nat.le_of_ble_eq_true rfl)⟩ 0 (ci := 5) rfl rfl [0] rfl rfl (Nat.le_of_ble_eq_true rfl) dX5_passByCustom_89 ⟨(Nat.le_of_ble_eq_true rfl), (Nat.le_of_ble_eq_true rfl)⟩ rfl (fun r w1 H locs hQ V => ?_)
        rcases hQ with ⟨j_3, rfl, rfl, f_4, f_5⟩ | ⟨rfl, rfl, f_6⟩
        · have V : gW D T A s [(a0, .inr (5, [.int (nI an), .int am, .int al, .int ao, .int au, .ref a1, .ref a2, .ref a3, .ref a4, .ref a5, .ref a6, .ref a7, .ref a8, .ref a9, .ref a10])), (a1, .inl (T 0, 10, .inl af1)), (a2, .inl (T 0, 10, .inl af2)), (a3, .inl (T 0, 10, .inl af3)), (a4, .inl (T 0, 10, .inl af4)), (a5, .inl (T 0, 10, .inl af5)), (a6, .inl (T 0, 10, .inl af6)), (a7, .inl (T 0, 10, .inl af7)), (a8, .inl (T 0, 10, .inl af8)), (a9, .inl (T 0, 10, .inl af9)), (a10, .inl (T 0, 10, .inl af10))] H locs := V _ [0] rfl rfl rfl (by decide +kernel) rfl
          show W p l e _ s m args below meth c H locs _ _ _ (F0 m 92 ls [.int (nI 1)])
          exact ((m1_ne _ (by omega) f_4.symm) : False).elim
        · have V : gW D T A s [(a0, .inr (5, [.int (nI an), .int am, .int al, .int ao, .int au, .ref a1, .ref a2, .ref a3, .ref a4, .ref a5, .ref a6, .ref a7, .ref a8, .ref a9, .ref a10])), (a1, .inl (T 0, 10, .inl af1)), (a2, .inl (T 0, 10, .inl af2)), (a3, .inl (T 0, 10, .inl af3)), (a4, .inl (T 0, 10, .inl af4)), (a5, .inl (T 0, 10, .inl af5)), (a6, .inl (T 0, 10, .inl af6)), (a7, .inl (T 0, 10, .inl af7)), (a8, .inl (T 0, 10, .inl af8)), (a9, .inl (T 0, 10, .inl af9)), (a10, .inl (T 0, 10, .inl af10))] H locs := V _ [0] rfl rfl rfl (by decide +kernel) rfl
          show W p l e _ s m args below meth c H locs _ _ _ (F0 m 92 ls [.int (nI 0)])
          refine lv_if_eq (tgt := 108) hx hb dX5_passByCustom_92 (by decide) (fun _ => ?_) (fun c => absurd (show (nI 0) = 0 by decide +kernel) c)
          refine lv_iconst (v := (nI 0)) hx hb dX5_passByCustom_108 (by decide +kernel) ?_
          refine lv_istore (lv' := [(6, .int (nI 0)), (5, .int pv), (4, .int sv), (0, .ref a0), (1, .int idl), (2, .int (-1)), (3, .int (nI 0))]) hx hb dX5_passByCustom_109 hl (by decide) rfl (fun ls hl => ?_)
          refine lv_aload_n hx hb dX5_passByCustom_111 rfl (lv_at hl 3 rfl) ?_
          refine lv_iload hx hb dX5_passByCustom_112 (lv_at hl 1 rfl) ?_
          refine lv_iload hx hb dX5_passByCustom_114 (lv_at hl 2 rfl) ?_
          refine lv_iload hx hb dX5_passByCustom_116 (lv_at hl 0 rfl) ?_
          refine lv_if_eq (tgt := 125) hx hb dX5_passByCustom_118 (by decide) (fun _ => ?_) (fun c => absurd (show (nI 0) = 0 by decide +kernel) c)
          refine lv_iconst (v := (-1)) hx hb dX5_passByCustom_125 (by decide +kernel) ?_
          refine lv_iload_n hx hb dX5_passByCustom_126 rfl (lv_at hl 6 rfl) ?_
          refine g_callV (wr := []) (nA := 4) hC V hl.1 (s_pass_f l D T fa a0 pv sv (-1) (nI 0) an am al ao au a1 a2 a3 a4 a5 a6 a7 a8 a9 a10 af1 af2 af3 af4 af5 af6 af7 af8 af9 af10 h_n h_t h_s1 h_s2 h_s3 h_s4 h_s5 h_s6 h_s7 h_s9 h_o h_a) w_552 w_467 w_468 w_3 w_469 (by decide +kernel) rfl ⟨(Nat.le_of_ble_eq_true rfl), (Nat.le_of_ble_eq_true rfl)⟩ 0 (ci := 5) rfl rfl [0, 1, 2, 3, 4, 5, 6, 7, 8, 9, 10] [] rfl rfl rfl rfl (by decide) (Nat.le_of_ble_eq_true rfl) dX5_passByCustom_127 ⟨(Nat.le_of_ble_eq_true rfl), (Nat.le_of_ble_eq_true rfl)⟩ rfl (fun r w1 H locs hQ V => ?_)
          obtain ⟨z_7, u_8, g3_9, g7_10, g8_11, g10_12, rfl, rfl, f_13, f_14, f_15, f_16⟩ := hQ
          have V : gW D T A s [(a0, .inr (5, [.int (nI an), .int (am + (nI 1)), .int al, .int ao, .int u_8, .ref a1, .ref a2, .ref a3, .ref a4, .ref a5, .ref a6, .ref a7, .ref a8, .ref a9, .ref a10])), (a1, .inl (T 0, 10, .inl af1)), (a2, .inl (T 0, 10, .inl af2)), (a3, .inl (T 0, 10, .inl g3_9)), (a4, .inl (T 0, 10, .inl af4)), (a5, .inl (T 0, 10, .inl af5)), (a6, .inl (T 0, 10, .inl af6)), (a7, .inl (T 0, 10, .inl g7_10)), (a8, .inl (T 0, 10, .inl g8_11)), (a9, .inl (T 0, 10, .inl af9)), (a10, .inl (T 0, 10, .inl g10_12))] H locs := V
          show W p l e _ s m args below meth c H locs _ _ _ (F0 m 130 ls [.int z_7])
          exact g_iret (Qr := (q_s_byCustom_f T fa lz a0 idl an am al ao au a1 a2 a3 a4 a5 a6 a7 a8 a9 a10 af1 af2 af3 af4 af5 af6 af7 af8 af9 af10)) hC V ⟨(Nat.le_of_ble_eq_true rfl), (Nat.le_of_ble_eq_true rfl)⟩ ⟨z_7, u_8, g3_9, g7_10, g8_11, g10_12, rfl, rfl, (by rw [← hsn]; exact f_13), (by rw [← hpn]; exact f_14), (by rw [← hpn, ← hsn]; exact f_15), (by rw [← hpn, ← hsn]; exact f_16)⟩ dX5_passByCustom_130
      · skip
        have c_2 := b_nle (by omega) (by omega) c_2
        refine lv_iload_n hx hb dX5_passByCustom_18 rfl (lv_at hl 4 rfl) ?_
        refine lv_iload hx hb dX5_passByCustom_19 (lv_at hl 0 rfl) ?_
        refine g_callSNU (nA := 2) (host := RX7) hC V hl.1 (c_isIn_f l D T idl k9) w_472 (List.mem_of_getElem? (i := 13) rfl) w_2 w_471 (by decide +kernel) rfl ⟨(Nat.le_of_ble_eq_true rfl), (Nat.le_of_ble_eq_true rfl)⟩ [] rfl rfl (Nat.le_of_ble_eq_true rfl) dX5_passByCustom_21 ⟨(Nat.le_of_ble_eq_true rfl), (Nat.le_of_ble_eq_true rfl)⟩ rfl (fun r w1 H locs hQ V => ?_)
        rcases hQ with ⟨rfl, rfl, f_17⟩ | ⟨rfl, rfl, f_18⟩
        · have V : gW D T A s [(a0, .inr (5, [.int (nI an), .int am, .int al, .int ao, .int au, .ref a1, .ref a2, .ref a3, .ref a4, .ref a5, .ref a6, .ref a7, .ref a8, .ref a9, .ref a10])), (a1, .inl (T 0, 10, .inl af1)), (a2, .inl (T 0, 10, .inl af2)), (a3, .inl (T 0, 10, .inl af3)), (a4, .inl (T 0, 10, .inl af4)), (a5, .inl (T 0, 10, .inl af5)), (a6, .inl (T 0, 10, .inl af6)), (a7, .inl (T 0, 10, .inl af7)), (a8, .inl (T 0, 10, .inl af8)), (a9, .inl (T 0, 10, .inl af9)), (a10, .inl (T 0, 10, .inl af10))] H locs := V _ [] rfl rfl rfl (by decide +kernel) rfl
          show W p l e _ s m args below meth c H locs _ _ _ (F0 m 24 ls [.int (nI 1)])
          refine lv_if_eq (tgt := 30) hx hb dX5_passByCustom_24 (by decide) (fun c => absurd (show (nI 1) = 0 from c) (by decide +kernel)) (fun _ => ?_)
          refine lv_goto (tgt := 81) hx hb dX5_passByCustom_27 (by decide) ?_
          refine lv_iinc (v := (nI (k9 + 1))) (lv' := [(6, .int (nI (k9 + 1))), (5, .int pv), (4, .int sv), (0, .ref a0), (1, .int idl), (2, .int (-1)), (3, .int (nI 0))]) hx hb dX5_passByCustom_81 hl (k := 0) rfl (nI_1 _) (by decide) rfl (fun ls hl => ?_)
          refine lv_goto (tgt := 9) hx hb dX5_passByCustom_84 (by decide) ?_
          exact ih_9 (k9 + 1) sv pv (by omega) (by rw [hsv]; exact (cS_lz ((h_il _ (by omega)).mp f_17)).1) (by rw [hpv]; exact (cS_lz ((h_il _ (by omega)).mp f_17)).2) (by omega) _ _ _ V (lv_sub hl [0, 1, 2, 3, 4, 5, 6] rfl)
        · have V : gW D T A s [(a0, .inr (5, [.int (nI an), .int am, .int al, .int ao, .int au, .ref a1, .ref a2, .ref a3, .ref a4, .ref a5, .ref a6, .ref a7, .ref a8, .ref a9, .ref a10])), (a1, .inl (T 0, 10, .inl af1)), (a2, .inl (T 0, 10, .inl af2)), (a3, .inl (T 0, 10, .inl af3)), (a4, .inl (T 0, 10, .inl af4)), (a5, .inl (T 0, 10, .inl af5)), (a6, .inl (T 0, 10, .inl af6)), (a7, .inl (T 0, 10, .inl af7)), (a8, .inl (T 0, 10, .inl af8)), (a9, .inl (T 0, 10, .inl af9)), (a10, .inl (T 0, 10, .inl af10))] H locs := V _ [] rfl rfl rfl (by decide +kernel) rfl
          show W p l e _ s m args below meth c H locs _ _ _ (F0 m 24 ls [.int (nI 0)])
          have hlz : ¬ nI k9 = lz := fun q => f_18 ((h_il _ (by omega)).mpr q)
          refine lv_if_eq (tgt := 30) hx hb dX5_passByCustom_24 (by decide) (fun _ => ?_) (fun c => absurd (show (nI 0) = 0 by decide +kernel) c)
          refine lv_aload_n hx hb dX5_passByCustom_30 rfl (lv_at hl 3 rfl) ?_
          refine lv_iload hx hb dX5_passByCustom_31 (lv_at hl 0 rfl) ?_
          refine g_callVU (nA := 1) hC V hl.1 (s_canStrike l D T a0 k9 an am al ao au a1 a2 a3 a4 a5 a6 a7 a8 a9 a10 af3 af4 af5 af6 af7 (by first | assumption | omega)) w_473 w_474 w_475 w_3 w_476 (by decide +kernel) rfl ⟨(Nat.le_of_ble_eq_true rfl), (Nat.le_of_ble_eq_true rfl)⟩ 0 (ci := 5) rfl rfl [0, 3, 4, 5, 6, 7] rfl rfl (Nat.le_of_ble_eq_true rfl) dX5_passByCustom_33 ⟨(Nat.le_of_ble_eq_true rfl), (Nat.le_of_ble_eq_true rfl)⟩ rfl (fun r w1 H locs hQ V => ?_)
          rcases hQ with ⟨rfl, rfl, f_19, f_20, f_21⟩ | ⟨rfl, rfl, f_22⟩
          · have V : gW D T A s [(a0, .inr (5, [.int (nI an), .int am, .int al, .int ao, .int au, .ref a1, .ref a2, .ref a3, .ref a4, .ref a5, .ref a6, .ref a7, .ref a8, .ref a9, .ref a10])), (a1, .inl (T 0, 10, .inl af1)), (a2, .inl (T 0, 10, .inl af2)), (a3, .inl (T 0, 10, .inl af3)), (a4, .inl (T 0, 10, .inl af4)), (a5, .inl (T 0, 10, .inl af5)), (a6, .inl (T 0, 10, .inl af6)), (a7, .inl (T 0, 10, .inl af7)), (a8, .inl (T 0, 10, .inl af8)), (a9, .inl (T 0, 10, .inl af9)), (a10, .inl (T 0, 10, .inl af10))] H locs := V _ [0, 2, 0, 0, 0, 0] rfl rfl rfl (by decide +kernel) rfl
            show W p l e _ s m args below meth c H locs _ _ _ (F0 m 36 ls [.int (nI 1)])
            refine lv_if_eq (tgt := 51) hx hb dX5_passByCustom_36 (by decide) (fun c => absurd (show (nI 1) = 0 from c) (by decide +kernel)) (fun _ => ?_)
            refine lv_iload hx hb dX5_passByCustom_39 (lv_at hl 2 rfl) ?_
            refine lv_iconst (v := (nI 1)) hx hb dX5_passByCustom_41 (by decide +kernel) ?_
            refine lv_iload hx hb dX5_passByCustom_42 (lv_at hl 0 rfl) ?_
            refine lv_ishl hx hb dX5_passByCustom_44 ?_
            refine lv_ior hx hb dX5_passByCustom_45 ?_
            refine lv_istore (lv' := [(4, .int (sv ||| ((nI 1) <<< ((nI k9) &&& 31)))), (6, .int (nI k9)), (5, .int pv), (0, .ref a0), (1, .int idl), (2, .int (-1)), (3, .int (nI 0))]) hx hb dX5_passByCustom_46 hl (by decide) rfl (fun ls hl => ?_)
            refine lv_goto (tgt := 81) hx hb dX5_passByCustom_48 (by decide) ?_
            refine lv_iinc (v := (nI (k9 + 1))) (lv' := [(6, .int (nI (k9 + 1))), (4, .int (sv ||| ((nI 1) <<< ((nI k9) &&& 31)))), (5, .int pv), (0, .ref a0), (1, .int idl), (2, .int (-1)), (3, .int (nI 0))]) hx hb dX5_passByCustom_81 hl (k := 1) rfl (nI_1 _) (by decide) rfl (fun ls hl => ?_)
            refine lv_goto (tgt := 9) hx hb dX5_passByCustom_84 (by decide) ?_
            exact ih_9 (k9 + 1) (sv ||| ((nI 1) <<< ((nI k9) &&& 31))) pv (by omega) (by rw [hsv]; exact (cS_y hlz (ctr_y (h_s7 _ (by omega)) (h_s6 _ (by omega)) (h_s3 _ (by omega)) (h_s4 _ (by omega)) (h_s5 _ (by omega)) f_19 f_20 f_21)).1) (by rw [hpv]; exact (cS_y hlz (ctr_y (h_s7 _ (by omega)) (h_s6 _ (by omega)) (h_s3 _ (by omega)) (h_s4 _ (by omega)) (h_s5 _ (by omega)) f_19 f_20 f_21)).2) (by omega) _ _ _ V (lv_sub hl [0, 2, 1, 3, 4, 5, 6] rfl)
          · have V : gW D T A s [(a0, .inr (5, [.int (nI an), .int am, .int al, .int ao, .int au, .ref a1, .ref a2, .ref a3, .ref a4, .ref a5, .ref a6, .ref a7, .ref a8, .ref a9, .ref a10])), (a1, .inl (T 0, 10, .inl af1)), (a2, .inl (T 0, 10, .inl af2)), (a3, .inl (T 0, 10, .inl af3)), (a4, .inl (T 0, 10, .inl af4)), (a5, .inl (T 0, 10, .inl af5)), (a6, .inl (T 0, 10, .inl af6)), (a7, .inl (T 0, 10, .inl af7)), (a8, .inl (T 0, 10, .inl af8)), (a9, .inl (T 0, 10, .inl af9)), (a10, .inl (T 0, 10, .inl af10))] H locs := V _ [0, 2, 0, 0, 0, 0] rfl rfl rfl (by decide +kernel) rfl
            show W p l e _ s m args below meth c H locs _ _ _ (F0 m 36 ls [.int (nI 0)])
            have hnc : ¬ cuStr fa k9 := ctr_n (h_s7 _ (by omega)) (h_s6 _ (by omega)) (h_s3 _ (by omega)) (h_s4 _ (by omega)) (h_s5 _ (by omega)) f_22
            refine lv_if_eq (tgt := 51) hx hb dX5_passByCustom_36 (by decide) (fun _ => ?_) (fun c => absurd (show (nI 0) = 0 by decide +kernel) c)
            refine lv_aload_n hx hb dX5_passByCustom_51 rfl (lv_at hl 3 rfl) ?_
            refine lv_aload_n hx hb dX5_passByCustom_52 rfl (lv_at hl 3 rfl) ?_
            refine g_get hC V (ci := 5) uwX5 0 rfl rfl 13 (by decide) w_82 rfl rfl dX5_passByCustom_53 ?_
            refine lv_iload hx hb dX5_passByCustom_56 (lv_at hl 0 rfl) ?_
            obtain ⟨j_23, hj_23, ej_23⟩ := bd_ex (h_t k9 (by omega))
            refine g_iald hC V 9 rfl (vp_in_nI (by omega) (by omega)) (v := (nI j_23)) (by rw [nI_clamp (by omega)]; exact ej_23) dX5_passByCustom_58 ?_
            refine lv_aload_n hx hb dX5_passByCustom_59 rfl (lv_at hl 3 rfl) ?_
            refine g_get hC V (ci := 5) uwX5 0 rfl rfl 5 (by decide) w_51 rfl rfl dX5_passByCustom_60 ?_
            refine lv_iload hx hb dX5_passByCustom_63 (lv_at hl 0 rfl) ?_
            refine g_iald hC V 1 rfl (vp_in_nI (by omega) (by omega)) (v := (af1 k9)) (congrArg _ (nI_clamp (by omega))) dX5_passByCustom_65 ?_
            refine g_callVU (nA := 2) hC V hl.1 (s_bears_f l D T a0 j_23 (af1 k9) an am al ao au a1 a2 a3 a4 a5 a6 a7 a8 a9 a10 af3 af5 (by first | assumption | omega)) w_548 w_550 w_s14 w_3 w_551 (by decide +kernel) rfl ⟨(Nat.le_of_ble_eq_true rfl), (Nat.le_of_ble_eq_true rfl)⟩ 0 (ci := 5) rfl rfl [0, 3, 5] rfl rfl (Nat.le_of_ble_eq_true rfl) dX5_passByCustom_66 ⟨(Nat.le_of_ble_eq_true rfl), (Nat.le_of_ble_eq_true rfl)⟩ rfl (fun r w1 H locs hQ V => ?_)
            rcases hQ with ⟨rfl, rfl, f_24⟩ | ⟨rfl, rfl, f_25⟩
            · have V : gW D T A s [(a0, .inr (5, [.int (nI an), .int am, .int al, .int ao, .int au, .ref a1, .ref a2, .ref a3, .ref a4, .ref a5, .ref a6, .ref a7, .ref a8, .ref a9, .ref a10])), (a1, .inl (T 0, 10, .inl af1)), (a2, .inl (T 0, 10, .inl af2)), (a3, .inl (T 0, 10, .inl af3)), (a4, .inl (T 0, 10, .inl af4)), (a5, .inl (T 0, 10, .inl af5)), (a6, .inl (T 0, 10, .inl af6)), (a7, .inl (T 0, 10, .inl af7)), (a8, .inl (T 0, 10, .inl af8)), (a9, .inl (T 0, 10, .inl af9)), (a10, .inl (T 0, 10, .inl af10))] H locs := V _ [0, 2, 1] rfl rfl rfl (by decide +kernel) rfl
              show W p l e _ s m args below meth c H locs _ _ _ (F0 m 69 ls [.int (nI 1)])
              refine lv_if_eq (tgt := 81) hx hb dX5_passByCustom_69 (by decide) (fun c => absurd (show (nI 1) = 0 from c) (by decide +kernel)) (fun _ => ?_)
              refine lv_iload hx hb dX5_passByCustom_72 (lv_at hl 1 rfl) ?_
              refine lv_iconst (v := (nI 1)) hx hb dX5_passByCustom_74 (by decide +kernel) ?_
              refine lv_iload hx hb dX5_passByCustom_75 (lv_at hl 0 rfl) ?_
              refine lv_ishl hx hb dX5_passByCustom_77 ?_
              refine lv_ior hx hb dX5_passByCustom_78 ?_
              refine lv_istore (lv' := [(5, .int (pv ||| ((nI 1) <<< ((nI k9) &&& 31)))), (6, .int (nI k9)), (4, .int sv), (0, .ref a0), (1, .int idl), (2, .int (-1)), (3, .int (nI 0))]) hx hb dX5_passByCustom_79 hl (by decide) rfl (fun ls hl => ?_)
              refine lv_iinc (v := (nI (k9 + 1))) (lv' := [(6, .int (nI (k9 + 1))), (5, .int (pv ||| ((nI 1) <<< ((nI k9) &&& 31)))), (4, .int sv), (0, .ref a0), (1, .int idl), (2, .int (-1)), (3, .int (nI 0))]) hx hb dX5_passByCustom_81 hl (k := 1) rfl (nI_1 _) (by decide) rfl (fun ls hl => ?_)
              refine lv_goto (tgt := 9) hx hb dX5_passByCustom_84 (by decide) ?_
              exact ih_9 (k9 + 1) sv (pv ||| ((nI 1) <<< ((nI k9) &&& 31))) (by omega) (by rw [hsv]; exact (cP_y hlz hnc ((bea (f := fa) ((h_s9 _ (by omega)).symm.trans ej_23) (by omega) (h_s5 _ (by omega)) (h_s3 _ (by omega)) (h_s1 _ (by omega))).mp f_24)).1) (by rw [hpv]; exact (cP_y hlz hnc ((bea (f := fa) ((h_s9 _ (by omega)).symm.trans ej_23) (by omega) (h_s5 _ (by omega)) (h_s3 _ (by omega)) (h_s1 _ (by omega))).mp f_24)).2) (by omega) _ _ _ V (lv_sub hl [0, 1, 2, 3, 4, 5, 6] rfl)
            · have V : gW D T A s [(a0, .inr (5, [.int (nI an), .int am, .int al, .int ao, .int au, .ref a1, .ref a2, .ref a3, .ref a4, .ref a5, .ref a6, .ref a7, .ref a8, .ref a9, .ref a10])), (a1, .inl (T 0, 10, .inl af1)), (a2, .inl (T 0, 10, .inl af2)), (a3, .inl (T 0, 10, .inl af3)), (a4, .inl (T 0, 10, .inl af4)), (a5, .inl (T 0, 10, .inl af5)), (a6, .inl (T 0, 10, .inl af6)), (a7, .inl (T 0, 10, .inl af7)), (a8, .inl (T 0, 10, .inl af8)), (a9, .inl (T 0, 10, .inl af9)), (a10, .inl (T 0, 10, .inl af10))] H locs := V _ [0, 2, 1] rfl rfl rfl (by decide +kernel) rfl
              show W p l e _ s m args below meth c H locs _ _ _ (F0 m 69 ls [.int (nI 0)])
              refine lv_if_eq (tgt := 81) hx hb dX5_passByCustom_69 (by decide) (fun _ => ?_) (fun c => absurd (show (nI 0) = 0 by decide +kernel) c)
              refine lv_iinc (v := (nI (k9 + 1))) (lv' := [(6, .int (nI (k9 + 1))), (5, .int pv), (4, .int sv), (0, .ref a0), (1, .int idl), (2, .int (-1)), (3, .int (nI 0))]) hx hb dX5_passByCustom_81 hl (k := 0) rfl (nI_1 _) (by decide) rfl (fun ls hl => ?_)
              refine lv_goto (tgt := 9) hx hb dX5_passByCustom_84 (by decide) ?_
              exact ih_9 (k9 + 1) sv pv (by omega) (by rw [hsv]; exact (cP_n hlz hnc (fun q => absurd f_25 ((bea (f := fa) ((h_s9 _ (by omega)).symm.trans ej_23) (by omega) (h_s5 _ (by omega)) (h_s3 _ (by omega)) (h_s1 _ (by omega))).mpr q))).1) (by rw [hpv]; exact (cP_n hlz hnc (fun q => absurd f_25 ((bea (f := fa) ((h_s9 _ (by omega)).symm.trans ej_23) (by omega) (h_s5 _ (by omega)) (h_s3 _ (by omega)) (h_s1 _ (by omega))).mpr q))).2) (by omega) _ _ _ V (lv_sub hl [0, 1, 2, 3, 4, 5, 6] rfl)
  exact L_1 _ 0 (nI 0) (nI 0) (by omega) rfl rfl (Nat.lt_succ_self _) _ _ _ V (lv_sub hl [0, 1, 2, 3, 4, 5, 6] rfl)

def q_s_allCustom_f (T : Nat → ClassId) (fa : Nat → Int32) (lz : Int32) (a0 : Nat) (cn : Nat) (idl : Int32) (an : Nat) (am : Int32) (al : Int32) (ao : Int32) (au : Int32) (a1 : Nat) (a2 : Nat) (a3 : Nat) (a4 : Nat) (a5 : Nat) (a6 : Nat) (a7 : Nat) (a8 : Nat) (a9 : Nat) (a10 : Nat) (af1 : Nat → Int32) (af2 : Nat → Int32) (af3 : Nat → Int32) (af4 : Nat → Int32) (af5 : Nat → Int32) (af6 : Nat → Int32) (af7 : Nat → Int32) (af8 : Nat → Int32) (af9 : Nat → Int32) (af10 : Nat → Int32) : Option Value → va_W → Prop := fun rr ww => (∃ (z : Int32) (u : Int32) (mm : Int32) (g3 : Nat → Int32) (g7 : Nat → Int32) (g8 : Nat → Int32) (g10 : Nat → Int32), rr = some (.int z) ∧ ww = [(a0, .inr (5, [.int (nI an), .int mm, .int al, .int ao, .int u, .ref a1, .ref a2, .ref a3, .ref a4, .ref a5, .ref a6, .ref a7, .ref a8, .ref a9, .ref a10])), (a1, .inl (T 0, 10, .inl af1)), (a2, .inl (T 0, 10, .inl af2)), (a3, .inl (T 0, 10, .inl g3)), (a4, .inl (T 0, 10, .inl af4)), (a5, .inl (T 0, 10, .inl af5)), (a6, .inl (T 0, 10, .inl af6)), (a7, .inl (T 0, 10, .inl g7)), (a8, .inl (T 0, 10, .inl g8)), (a9, .inl (T 0, 10, .inl af9)), (a10, .inl (T 0, 10, .inl g10))] ∧ z = cuC an fa lz cn ∧ (∀ i, i < an → g3 i = cuI an fa lz cn (24 + i)) ∧ (∀ i, i < an → g7 i = cuI an fa lz cn (64 + i)) ∧ mm = cuI an fa lz cn 1)
set_option maxHeartbeats 4000000 in
set_option maxRecDepth 100000 in
theorem s_allCustom_f (l : Launch) (D : va_G) (T : Nat → ClassId) (fa : Nat → Int32) (lz : Int32) (a0 : Nat) (cn : Nat) (idl : Int32) (an : Nat) (am : Int32) (al : Int32) (ao : Int32) (au : Int32) (a1 : Nat) (a2 : Nat) (a3 : Nat) (a4 : Nat) (a5 : Nat) (a6 : Nat) (a7 : Nat) (a8 : Nat) (a9 : Nat) (a10 : Nat) (af1 : Nat → Int32) (af2 : Nat → Int32) (af3 : Nat → Int32) (af4 : Nat → Int32) (af5 : Nat → Int32) (af6 : Nat → Int32) (af7 : Nat → Int32) (af8 : Nat → Int32) (af9 : Nat → Int32) (af10 : Nat → Int32) (h_n : an ≤ 10) (h_t : ∀ i, i < an → bd (af9 i) an) (h_s1 : ∀ i, i < an → af1 i = fa (4 + i)) (h_s2 : ∀ i, i < an → af2 i = fa (14 + i)) (h_s3 : ∀ i, i < an → af3 i = fa (24 + i)) (h_s4 : ∀ i, i < an → af4 i = fa (34 + i)) (h_s5 : ∀ i, i < an → af5 i = fa (44 + i)) (h_s6 : ∀ i, i < an → af6 i = fa (54 + i)) (h_s7 : ∀ i, i < an → af7 i = fa (64 + i)) (h_s9 : ∀ i, i < an → af9 i = fa (84 + i)) (h_o : ao = fa 2) (h_a : MI an fa) (h_il : ∀ i, i < an → (bitP idl i ↔ nI i = lz)) (h_m : am = fa 1) (h_c : cn ≤ 1000) : Ct l yX5_passAllByCustom cX5_passAllByCustom 7 (some .int) 4 0 0 D T [.ref a0, .int (nI cn), .int idl, .int (-1), .int (nI 0)] [(a0, .inr (5, [.int (nI an), .int am, .int al, .int ao, .int au, .ref a1, .ref a2, .ref a3, .ref a4, .ref a5, .ref a6, .ref a7, .ref a8, .ref a9, .ref a10])), (a1, .inl (T 0, 10, .inl af1)), (a2, .inl (T 0, 10, .inl af2)), (a3, .inl (T 0, 10, .inl af3)), (a4, .inl (T 0, 10, .inl af4)), (a5, .inl (T 0, 10, .inl af5)), (a6, .inl (T 0, 10, .inl af6)), (a7, .inl (T 0, 10, .inl af7)), (a8, .inl (T 0, 10, .inl af8)), (a9, .inl (T 0, 10, .inl af9)), (a10, .inl (T 0, 10, .inl af10))] (q_s_allCustom_f T fa lz a0 cn idl an am al ao au a1 a2 a3 a4 a5 a6 a7 a8 a9 a10 af1 af2 af3 af4 af5 af6 af7 af8 af9 af10) := by
  refine Ct.of (cc := cX5_passAllByCustom) (maxL := 7) (ret := (some .int)) (by decide) (Nat.le_of_ble_eq_true rfl) ?_
  intro p e s m args below meth c A ls hC hnm V hl
  obtain ⟨hx, hb, hr, hml, hown, hts, hlocks⟩ := id hC
  generalize hH : s.heap = H at V ⊢
  clear hH
  have hl : lv_has ls 7 [(0, .ref a0), (1, .int (nI cn)), (2, .int idl), (3, .int (-1)), (4, .int (nI 0))] := hl
  generalize hlo : ([] : List Loc) = locs at V ⊢
  clear hlo
  refine lv_iconst (v := (nI 0)) hx hb dX5_passAllByCustom_0 (by decide +kernel) ?_
  refine lv_istore (lv' := [(5, .int (nI 0)), (0, .ref a0), (1, .int (nI cn)), (2, .int idl), (3, .int (-1)), (4, .int (nI 0))]) hx hb dX5_passAllByCustom_1 hl (by decide) rfl (fun ls hl => ?_)
  refine lv_iconst (v := (nI 0)) hx hb dX5_passAllByCustom_3 (by decide +kernel) ?_
  refine lv_istore (lv' := [(6, .int (nI 0)), (5, .int (nI 0)), (0, .ref a0), (1, .int (nI cn)), (2, .int idl), (3, .int (-1)), (4, .int (nI 0))]) hx hb dX5_passAllByCustom_4 hl (by decide) rfl (fun ls hl => ?_)
  have L_1 : ∀ (fu : Nat) (k6 : Nat) (x5 : Int32) (mv : Int32) (uv : Int32) (gb : Nat → Int32) (gc : Nat → Int32) (gd : Nat → Int32) (ge : Nat → Int32), k6 ≤ cn → x5 = cuC an fa lz k6 → (∀ i, i < an → gb i = cuI an fa lz k6 (24 + i)) → (∀ i, i < an → gc i = cuI an fa lz k6 (64 + i)) → mv = cuI an fa lz k6 1 → cn - k6 < fu → ∀ (H : Heap) (locs : List Loc) (ls : Array Slot), gW D T A s [(a0, .inr (5, [.int (nI an), .int mv, .int al, .int ao, .int uv, .ref a1, .ref a2, .ref a3, .ref a4, .ref a5, .ref a6, .ref a7, .ref a8, .ref a9, .ref a10])), (a1, .inl (T 0, 10, .inl af1)), (a2, .inl (T 0, 10, .inl af2)), (a3, .inl (T 0, 10, .inl gb)), (a4, .inl (T 0, 10, .inl af4)), (a5, .inl (T 0, 10, .inl af5)), (a6, .inl (T 0, 10, .inl af6)), (a7, .inl (T 0, 10, .inl gc)), (a8, .inl (T 0, 10, .inl gd)), (a9, .inl (T 0, 10, .inl af9)), (a10, .inl (T 0, 10, .inl ge))] H locs → lv_has ls 7 [(6, .int (nI k6)), (5, .int x5), (0, .ref a0), (1, .int (nI cn)), (2, .int idl), (3, .int (-1)), (4, .int (nI 0))] → W p l e (rmD 4 0 0) s m args below meth c H locs 0 0 (MQ below (gQ D A (q_s_allCustom_f T fa lz a0 cn idl an am al ao au a1 a2 a3 a4 a5 a6 a7 a8 a9 a10 af1 af2 af3 af4 af5 af6 af7 af8 af9 af10)) args s 0 0 A) (F0 m 6 ls []) := by
    intro fu_6
    induction fu_6 with
    | zero => intro k6 x5 mv uv gb gc gd ge hk6 hx5 hgb hgc hmv hmu; exact absurd hmu (Nat.not_lt_zero _)
    | succ fu_6 ih_6 =>
      intro k6 x5 mv uv gb gc gd ge hk6 hx5 hgb hgc hmv hmu_6 H locs ls V hl
      refine lv_iload hx hb dX5_passAllByCustom_6 (lv_at hl 0 rfl) ?_
      refine lv_iload_n hx hb dX5_passAllByCustom_8 rfl (lv_at hl 3 rfl) ?_
      refine lv_icmp_ge (tgt := 31) hx hb dX5_passAllByCustom_9 (by decide) (fun c_2 => ?_) (fun c_2 => ?_)
      · skip
        have c_2 := b_le (by omega) (by omega) c_2
        refine lv_iload hx hb dX5_passAllByCustom_31 (lv_at hl 1 rfl) ?_
        exact g_iret (Qr := (q_s_allCustom_f T fa lz a0 cn idl an am al ao au a1 a2 a3 a4 a5 a6 a7 a8 a9 a10 af1 af2 af3 af4 af5 af6 af7 af8 af9 af10)) hC V ⟨(Nat.le_of_ble_eq_true rfl), (Nat.le_of_ble_eq_true rfl)⟩ ⟨x5, uv, mv, gb, gc, gd, ge, rfl, rfl, (by rw [hx5]; congr 1; omega), (fun i hi => by rw [hgb i hi]; congr 2; omega), (fun i hi => by rw [hgc i hi]; congr 2; omega), (by rw [hmv]; congr 2; omega)⟩ dX5_passAllByCustom_33
      · skip
        have c_2 := b_nle (by omega) (by omega) c_2
        refine lv_iload hx hb dX5_passAllByCustom_12 (lv_at hl 1 rfl) ?_
        refine lv_aload_n hx hb dX5_passAllByCustom_14 rfl (lv_at hl 2 rfl) ?_
        refine lv_iload_n hx hb dX5_passAllByCustom_15 rfl (lv_at hl 4 rfl) ?_
        refine lv_iload_n hx hb dX5_passAllByCustom_16 rfl (lv_at hl 5 rfl) ?_
        refine lv_iload hx hb dX5_passAllByCustom_17 (lv_at hl 6 rfl) ?_
        refine g_callV (wr := []) (nA := 3) hC V hl.1 (s_byCustom_f l D T (cuI an fa lz k6) lz a0 idl an mv al ao uv a1 a2 a3 a4 a5 a6 a7 a8 a9 a10 af1 af2 gb af4 af5 af6 gc gd af9 ge h_n h_t (fun i hi => (h_s1 i hi).trans (cuI_o h_n (by omega) (by omega) _).symm) (fun i hi => (h_s2 i hi).trans (cuI_o h_n (by omega) (by omega) _).symm) hgb (fun i hi => (h_s4 i hi).trans (cuI_o h_n (by omega) (by omega) _).symm) (fun i hi => (h_s5 i hi).trans (cuI_o h_n (by omega) (by omega) _).symm) (fun i hi => (h_s6 i hi).trans (cuI_o h_n (by omega) (by omega) _).symm) hgc (fun i hi => (h_s9 i hi).trans (cuI_o h_n (by omega) (by omega) _).symm) (h_o.trans (cuI_o h_n (by omega) (by omega) _).symm) (cuI_mi h_a _) h_il) w_544 w_545 w_546 w_3 w_547 (by decide +kernel) rfl ⟨(Nat.le_of_ble_eq_true rfl), (Nat.le_of_ble_eq_true rfl)⟩ 0 (ci := 5) rfl rfl [0, 1, 2, 3, 4, 5, 6, 7, 8, 9, 10] [] rfl rfl rfl rfl (by decide) (Nat.le_of_ble_eq_true rfl) dX5_passAllByCustom_19 ⟨(Nat.le_of_ble_eq_true rfl), (Nat.le_of_ble_eq_true rfl)⟩ rfl (fun r w1 H locs hQ V => ?_)
        obtain ⟨z_3, u_4, g3_5, g7_6, g8_7, g10_8, rfl, rfl, f_9, f_10, f_11, f_12⟩ := hQ
        have V : gW D T A s [(a0, .inr (5, [.int (nI an), .int (mv + (nI 1)), .int al, .int ao, .int u_4, .ref a1, .ref a2, .ref a3, .ref a4, .ref a5, .ref a6, .ref a7, .ref a8, .ref a9, .ref a10])), (a1, .inl (T 0, 10, .inl af1)), (a2, .inl (T 0, 10, .inl af2)), (a3, .inl (T 0, 10, .inl g3_5)), (a4, .inl (T 0, 10, .inl af4)), (a5, .inl (T 0, 10, .inl af5)), (a6, .inl (T 0, 10, .inl af6)), (a7, .inl (T 0, 10, .inl g7_6)), (a8, .inl (T 0, 10, .inl g8_7)), (a9, .inl (T 0, 10, .inl af9)), (a10, .inl (T 0, 10, .inl g10_8))] H locs := V
        show W p l e _ s m args below meth c H locs _ _ _ (F0 m 22 ls [.int z_3, .int x5])
        refine lv_iadd hx hb dX5_passAllByCustom_22 ?_
        refine lv_istore (lv' := [(5, .int (x5 + z_3)), (6, .int (nI k6)), (0, .ref a0), (1, .int (nI cn)), (2, .int idl), (3, .int (-1)), (4, .int (nI 0))]) hx hb dX5_passAllByCustom_23 hl (by decide) rfl (fun ls hl => ?_)
        refine lv_iinc (v := (nI (k6 + 1))) (lv' := [(6, .int (nI (k6 + 1))), (5, .int (x5 + z_3)), (0, .ref a0), (1, .int (nI cn)), (2, .int idl), (3, .int (-1)), (4, .int (nI 0))]) hx hb dX5_passAllByCustom_25 hl (k := 1) rfl (nI_1 _) (by decide) rfl (fun ls hl => ?_)
        refine lv_goto (tgt := 6) hx hb dX5_passAllByCustom_28 (by decide) ?_
        exact ih_6 (k6 + 1) (x5 + z_3) (mv + (nI 1)) u_4 g3_5 g7_6 g8_7 g10_8 (by omega) (by rw [hx5, f_9]; rfl) (fun i hi => (f_10 i hi).trans (goF_24 h_n hi).symm) (fun i hi => (f_11 i hi).trans (goF_64 h_n hi).symm) (by rw [hmv]; exact cuI_1.symm) (by omega) _ _ _ V (lv_sub hl [0, 1, 2, 3, 4, 5, 6] rfl)
  exact L_1 _ 0 (nI 0) am au af3 af7 af8 af10 (by omega) rfl h_s3 h_s7 h_m (Nat.lt_succ_self _) _ _ _ V (lv_sub hl [0, 1, 2, 3, 4, 5, 6] rfl)

def q_m_lives_f (T : Nat → ClassId) (n : Nat) (o : Nat) (cn : Nat) (lz : Int32) (w0 : Int32) (g1 : Nat) (g2 : Nat) (g3 : Nat) (g4 : Nat) (tp : Nat) (w6 : Int32) (w7 : Int32) (w8 : Int32) (w9 : Int32) (w10 : Int32) (w11 : Int32) (w12 : Int32) (w13 : Int32) (w14 : Int32) (g15 : Nat) (w16 : Int32) (g17 : Nat) (w18 : Int32) (w19 : Int32) (g20 : Nat) (w21 : Int32) (g22 : Nat) (g23 : Nat) (g24 : Nat) (w25 : Int32) (w26 : Int32) (w27 : Int32) (g28 : Nat) (g29 : Nat) (w30 : Int32) (g31 : Nat) (g32 : Nat) (g33 : Nat) (fa : Nat → Int32) (fh : Nat → Int32) : Option Value → va_W → Prop := fun rr ww => (∃ (z : Int32) (bm : Int32) (ga : Nat → Int32) (gh : Nat → Int32), rr = some (.int z) ∧ ww = [(o, .inr (8, [.int w0, .ref g1, .ref g2, .ref g3, .ref g4, .int (nI tp), .int w6, .int w7, .int w8, .int w9, .int w10, .int w11, .int w12, .int w13, .int w14, .ref g15, .int bm, .ref g17, .int w18, .int w19, .ref g20, .int w21, .ref g22, .ref g23, .ref g24, .int w25, .int w26, .int w27, .ref g28, .ref g29, .int w30, .ref g31, .ref g32, .ref g33])), (g1, .inl (T 0, 282, .inl ga)), (g15, .inl (T 0, 10, .inl gh))] ∧ MS n fa ga ∧ z = cuC n fa lz cn ∧ ga = cuI n fa lz cn)
set_option maxHeartbeats 4000000 in
set_option maxRecDepth 100000 in
theorem m_lives_f (l : Launch) (D : va_G) (T : Nat → ClassId) (n : Nat) (o : Nat) (cn : Nat) (lz : Int32) (w0 : Int32) (g1 : Nat) (g2 : Nat) (g3 : Nat) (g4 : Nat) (tp : Nat) (w6 : Int32) (w7 : Int32) (w8 : Int32) (w9 : Int32) (w10 : Int32) (w11 : Int32) (w12 : Int32) (w13 : Int32) (w14 : Int32) (g15 : Nat) (w16 : Int32) (g17 : Nat) (w18 : Int32) (w19 : Int32) (g20 : Nat) (w21 : Int32) (g22 : Nat) (g23 : Nat) (g24 : Nat) (w25 : Int32) (w26 : Int32) (w27 : Int32) (g28 : Nat) (g29 : Nat) (w30 : Int32) (g31 : Nat) (g32 : Nat) (g33 : Nat) (fa : Nat → Int32) (fh : Nat → Int32) (h_a : MI n fa) (h_c : cn ≤ 1000) : Ct l yX8_lives cX8_lives 11 (some .int) 3 0 0 D T [.ref o, .int (nI cn), .int lz, .int (-1), .int (nI 0)] [(o, .inr (8, [.int w0, .ref g1, .ref g2, .ref g3, .ref g4, .int (nI tp), .int w6, .int w7, .int w8, .int w9, .int w10, .int w11, .int w12, .int w13, .int w14, .ref g15, .int w16, .ref g17, .int w18, .int w19, .ref g20, .int w21, .ref g22, .ref g23, .ref g24, .int w25, .int w26, .int w27, .ref g28, .ref g29, .int w30, .ref g31, .ref g32, .ref g33])), (g1, .inl (T 0, 282, .inl fa)), (g15, .inl (T 0, 10, .inl fh))] (q_m_lives_f T n o cn lz w0 g1 g2 g3 g4 tp w6 w7 w8 w9 w10 w11 w12 w13 w14 g15 w16 g17 w18 w19 g20 w21 g22 g23 g24 w25 w26 w27 g28 g29 w30 g31 g32 g33 fa fh) := by
  refine Ct.of (cc := cX8_lives) (maxL := 11) (ret := (some .int)) (by decide) (Nat.le_of_ble_eq_true rfl) ?_
  intro p e s m args below meth c A ls hC hnm V hl
  obtain ⟨hx, hb, hr, hml, hown, hts, hlocks⟩ := id hC
  generalize hH : s.heap = H at V ⊢
  clear hH
  have hl : lv_has ls 11 [(0, .ref o), (1, .int (nI cn)), (2, .int lz), (3, .int (-1)), (4, .int (nI 0))] := hl
  generalize hlo : ([] : List Loc) = locs at V ⊢
  clear hlo
  have ms0 := ms_rf h_a
  have hn10 := h_a.1
  refine lv_iconst (v := (nI 0)) hx hb dX8_lives_0 (by decide +kernel) ?_
  refine lv_istore (lv' := [(5, .int (nI 0)), (0, .ref o), (1, .int (nI cn)), (2, .int lz), (3, .int (-1)), (4, .int (nI 0))]) hx hb dX8_lives_1 hl (by decide) rfl (fun ls hl => ?_)
  refine lv_iconst (v := (nI 0)) hx hb dX8_lives_3 (by decide +kernel) ?_
  refine lv_istore (lv' := [(6, .int (nI 0)), (5, .int (nI 0)), (0, .ref o), (1, .int (nI cn)), (2, .int lz), (3, .int (-1)), (4, .int (nI 0))]) hx hb dX8_lives_4 hl (by decide) rfl (fun ls hl => ?_)
  have L_1 : ∀ (fu : Nat) (k6 : Nat) (x5 : Int32) (bv : Int32) (th : Nat → Int32) (f6 : Nat → Int32), k6 ≤ cn → MS n fa f6 → f6 = cuI n fa lz k6 → x5 = cuC n fa lz k6 → cn - k6 < fu → ∀ (H : Heap) (locs : List Loc) (ls : Array Slot), gW D T A s [(o, .inr (8, [.int w0, .ref g1, .ref g2, .ref g3, .ref g4, .int (nI tp), .int w6, .int w7, .int w8, .int w9, .int w10, .int w11, .int w12, .int w13, .int w14, .ref g15, .int bv, .ref g17, .int w18, .int w19, .ref g20, .int w21, .ref g22, .ref g23, .ref g24, .int w25, .int w26, .int w27, .ref g28, .ref g29, .int w30, .ref g31, .ref g32, .ref g33])), (g1, .inl (T 0, 282, .inl f6)), (g15, .inl (T 0, 10, .inl th))] H locs → lv_has ls 11 [(6, .int (nI k6)), (5, .int x5), (0, .ref o), (1, .int (nI cn)), (2, .int lz), (3, .int (-1)), (4, .int (nI 0))] → W p l e (rmD 3 0 0) s m args below meth c H locs 0 0 (MQ below (gQ D A (q_m_lives_f T n o cn lz w0 g1 g2 g3 g4 tp w6 w7 w8 w9 w10 w11 w12 w13 w14 g15 w16 g17 w18 w19 g20 w21 g22 g23 g24 w25 w26 w27 g28 g29 w30 g31 g32 g33 fa fh)) args s 0 0 A) (F0 m 6 ls []) := by
    intro fu_6
    induction fu_6 with
    | zero => intro k6 x5 bv th f6 hk6 hf6 hI hx5 hmu; exact absurd hmu (Nat.not_lt_zero _)
    | succ fu_6 ih_6 =>
      intro k6 x5 bv th f6 hk6 hf6 hI hx5 hmu_6 H locs ls V hl
      refine lv_iload hx hb dX8_lives_6 (lv_at hl 0 rfl) ?_
      refine lv_iload_n hx hb dX8_lives_8 rfl (lv_at hl 3 rfl) ?_
      refine lv_icmp_ge (tgt := 198) hx hb dX8_lives_9 (by decide) (fun c_2 => ?_) (fun c_2 => ?_)
      · skip
        have c_2 := b_le (by omega) (by omega) c_2
        refine lv_iload hx hb dX8_lives_198 (lv_at hl 1 rfl) ?_
        exact g_iret (Qr := (q_m_lives_f T n o cn lz w0 g1 g2 g3 g4 tp w6 w7 w8 w9 w10 w11 w12 w13 w14 g15 w16 g17 w18 w19 g20 w21 g22 g23 g24 w25 w26 w27 g28 g29 w30 g31 g32 g33 fa fh)) hC V ⟨(Nat.le_of_ble_eq_true rfl), (Nat.le_of_ble_eq_true rfl)⟩ ⟨x5, bv, f6, th, rfl, rfl, (by assumption), (by rw [hx5]; congr 1; omega), (by rw [hI]; congr 1; omega)⟩ dX8_lives_200
      · skip
        have c_2 := b_nle (by omega) (by omega) c_2
        refine lv_iconst (v := (nI 0)) hx hb dX8_lives_12 (by decide +kernel) ?_
        refine lv_istore (lv' := [(7, .int (nI 0)), (6, .int (nI k6)), (5, .int x5), (0, .ref o), (1, .int (nI cn)), (2, .int lz), (3, .int (-1)), (4, .int (nI 0))]) hx hb dX8_lives_13 hl (by decide) rfl (fun ls hl => ?_)
        refine lv_iconst (v := (nI 0)) hx hb dX8_lives_15 (by decide +kernel) ?_
        refine lv_istore (lv' := [(8, .int (nI 0)), (7, .int (nI 0)), (6, .int (nI k6)), (5, .int x5), (0, .ref o), (1, .int (nI cn)), (2, .int lz), (3, .int (-1)), (4, .int (nI 0))]) hx hb dX8_lives_16 hl (by decide) rfl (fun ls hl => ?_)
        refine lv_iconst (v := (nI 0)) hx hb dX8_lives_18 (by decide +kernel) ?_
        refine lv_istore (lv' := [(9, .int (nI 0)), (8, .int (nI 0)), (7, .int (nI 0)), (6, .int (nI k6)), (5, .int x5), (0, .ref o), (1, .int (nI cn)), (2, .int lz), (3, .int (-1)), (4, .int (nI 0))]) hx hb dX8_lives_19 hl (by decide) rfl (fun ls hl => ?_)
        have L_3 : ∀ (fu : Nat) (k21 : Nat) (pv : Int32) (sv : Int32), k21 ≤ n → sv = cuSk f6 lz k21 → pv = cuPl f6 lz k21 → n - k21 < fu → ∀ (H : Heap) (locs : List Loc) (ls : Array Slot), gW D T A s [(o, .inr (8, [.int w0, .ref g1, .ref g2, .ref g3, .ref g4, .int (nI tp), .int w6, .int w7, .int w8, .int w9, .int w10, .int w11, .int w12, .int w13, .int w14, .ref g15, .int bv, .ref g17, .int w18, .int w19, .ref g20, .int w21, .ref g22, .ref g23, .ref g24, .int w25, .int w26, .int w27, .ref g28, .ref g29, .int w30, .ref g31, .ref g32, .ref g33])), (g1, .inl (T 0, 282, .inl f6)), (g15, .inl (T 0, 10, .inl th))] H locs → lv_has ls 11 [(9, .int (nI k21)), (8, .int sv), (7, .int pv), (6, .int (nI k6)), (5, .int x5), (0, .ref o), (1, .int (nI cn)), (2, .int lz), (3, .int (-1)), (4, .int (nI 0))] → W p l e (rmD 3 0 0) s m args below meth c H locs 0 0 (MQ below (gQ D A (q_m_lives_f T n o cn lz w0 g1 g2 g3 g4 tp w6 w7 w8 w9 w10 w11 w12 w13 w14 g15 w16 g17 w18 w19 g20 w21 g22 g23 g24 w25 w26 w27 g28 g29 w30 g31 g32 g33 fa fh)) args s 0 0 A) (F0 m 21 ls []) := by
          intro fu_21
          induction fu_21 with
          | zero => intro k21 pv sv hk21 hsv hpv hmu; exact absurd hmu (Nat.not_lt_zero _)
          | succ fu_21 ih_21 =>
            intro k21 pv sv hk21 hsv hpv hmu_21 H locs ls V hl
            refine lv_iload hx hb dX8_lives_21 (lv_at hl 0 rfl) ?_
            refine lv_aload_n hx hb dX8_lives_23 rfl (lv_at hl 5 rfl) ?_
            refine g_get hC V (ci := 8) uwX8 0 rfl rfl 1 (by decide) w_913 rfl rfl dX8_lives_24 ?_
            refine lv_iconst (v := (nI 0)) hx hb dX8_lives_27 (by decide +kernel) ?_
            refine g_iald hC V 1 rfl (vp_in_nI (by decide) (by decide)) (v := (nI n)) (by rw [nI_clamp (by decide)]; first | rfl | exact h_a.2.1 | exact hf6.1.2.1) dX8_lives_28 ?_
            refine lv_icmp_ge (tgt := 131) hx hb dX8_lives_29 (by decide) (fun c_4 => ?_) (fun c_4 => ?_)
            · skip
              have c_4 := b_le (by omega) (by omega) c_4
              have hsn : sv = cuSk f6 lz n := by rw [hsv]; congr 1; omega
              have hpn : pv = cuPl f6 lz n := by rw [hpv]; congr 1; omega
              refine lv_iload_n hx hb dX8_lives_131 rfl (lv_at hl 8 rfl) ?_
              refine lv_iconst (v := (-1)) hx hb dX8_lives_132 (by decide +kernel) ?_
              refine lv_icmp_eq (tgt := 164) hx hb dX8_lives_133 (by decide) (fun _ => ?_) (fun c => absurd (show (-1 : Int32) = (-1 : Int32) by first | rfl | decide +kernel) c)
              refine lv_iconst (v := (nI 0)) hx hb dX8_lives_164 (by decide +kernel) ?_
              refine lv_istore (lv' := [(9, .int (nI 0)), (8, .int sv), (7, .int pv), (6, .int (nI k6)), (5, .int x5), (0, .ref o), (1, .int (nI cn)), (2, .int lz), (3, .int (-1)), (4, .int (nI 0))]) hx hb dX8_lives_165 hl (by decide) rfl (fun ls hl => ?_)
              refine lv_iload hx hb dX8_lives_167 (lv_at hl 4 rfl) ?_
              refine lv_aload_n hx hb dX8_lives_169 rfl (lv_at hl 5 rfl) ?_
              refine lv_iload hx hb dX8_lives_170 (lv_at hl 2 rfl) ?_
              refine lv_iload hx hb dX8_lives_172 (lv_at hl 1 rfl) ?_
              refine lv_iload_n hx hb dX8_lives_174 rfl (lv_at hl 8 rfl) ?_
              refine lv_iload hx hb dX8_lives_175 (lv_at hl 0 rfl) ?_
              refine lv_if_eq (tgt := 185) hx hb dX8_lives_177 (by decide) (fun _ => ?_) (fun c => absurd (show (nI 0) = 0 by decide +kernel) c)
              refine lv_iconst (v := (nI 0)) hx hb dX8_lives_185 (by decide +kernel) ?_
              refine g_callV (wr := []) (nA := 4) hC V hl.1 (m_goes_f l D T n o pv sv (-1) (nI 0) w0 g1 g2 g3 g4 tp w6 w7 w8 w9 w10 w11 w12 w13 w14 g15 bv g17 w18 w19 g20 w21 g22 g23 g24 w25 w26 w27 g28 g29 w30 g31 g32 g33 f6 th hf6.1) w_1122 w_1124 w_s50 w_9 w_1125 (by decide +kernel) rfl ⟨(Nat.le_of_ble_eq_true rfl), (Nat.le_of_ble_eq_true rfl)⟩ 0 (ci := 8) rfl rfl [0, 1, 2] [] rfl rfl rfl rfl (by decide) (Nat.le_of_ble_eq_true rfl) dX8_lives_186 ⟨(Nat.le_of_ble_eq_true rfl), (Nat.le_of_ble_eq_true rfl)⟩ rfl (fun r w1 H locs hQ V => ?_)
              obtain ⟨z_5, bm_6, ga_7, gh_8, rfl, rfl, f_9, f_10, f_11, f_12⟩ := hQ
              have V : gW D T A s [(o, .inr (8, [.int w0, .ref g1, .ref g2, .ref g3, .ref g4, .int (nI tp), .int w6, .int w7, .int w8, .int w9, .int w10, .int w11, .int w12, .int w13, .int w14, .ref g15, .int bm_6, .ref g17, .int w18, .int w19, .ref g20, .int w21, .ref g22, .ref g23, .ref g24, .int w25, .int w26, .int w27, .ref g28, .ref g29, .int w30, .ref g31, .ref g32, .ref g33])), (g1, .inl (T 0, 282, .inl ga_7)), (g15, .inl (T 0, 10, .inl gh_8))] H locs := V
              show W p l e _ s m args below meth c H locs _ _ _ (F0 m 189 ls [.int z_5, .int x5])
              have hga_7 : MS n fa ga_7 := ms_tr (by assumption) f_9
              refine lv_iadd hx hb dX8_lives_189 ?_
              refine lv_istore (lv' := [(5, .int (x5 + z_5)), (9, .int (nI 0)), (8, .int sv), (7, .int pv), (6, .int (nI k6)), (0, .ref o), (1, .int (nI cn)), (2, .int lz), (3, .int (-1)), (4, .int (nI 0))]) hx hb dX8_lives_190 hl (by decide) rfl (fun ls hl => ?_)
              refine lv_iinc (v := (nI (k6 + 1))) (lv' := [(6, .int (nI (k6 + 1))), (5, .int (x5 + z_5)), (9, .int (nI 0)), (8, .int sv), (7, .int pv), (0, .ref o), (1, .int (nI cn)), (2, .int lz), (3, .int (-1)), (4, .int (nI 0))]) hx hb dX8_lives_192 hl (k := 4) rfl (nI_1 _) (by decide) rfl (fun ls hl => ?_)
              refine lv_goto (tgt := 6) hx hb dX8_lives_195 (by decide) ?_
              exact ih_6 (k6 + 1) (x5 + z_5) bm_6 gh_8 ga_7 (by omega) (by assumption) (by rw [f_11, hsn, hpn, hI]; rfl) (by rw [hx5, f_10, hsn, hI]; rfl) (by omega) _ _ _ V (lv_sub hl [0, 1, 5, 6, 7, 8, 9] rfl)
            · skip
              have c_4 := b_nle (by omega) (by omega) c_4
              refine lv_iload hx hb dX8_lives_32 (lv_at hl 0 rfl) ?_
              refine lv_iload_n hx hb dX8_lives_34 rfl (lv_at hl 7 rfl) ?_
              refine lv_icmp_ne (tgt := 41) hx hb dX8_lives_35 (by decide) (fun c_13 => ?_) (fun c_13 => ?_)
              · skip
                have hlz := c_13
                refine lv_aload_n hx hb dX8_lives_41 rfl (lv_at hl 5 rfl) ?_
                refine g_get hC V (ci := 8) uwX8 0 rfl rfl 1 (by decide) w_913 rfl rfl dX8_lives_42 ?_
                refine lv_bipush (v := (nI 84)) hx hb dX8_lives_45 (by decide +kernel) ?_
                refine lv_iload hx hb dX8_lives_47 (lv_at hl 0 rfl) ?_
                refine lv_iadd hx hb dX8_lives_49 ?_
                refine g_vi (y := (nI (84 + k21))) (nI_add _ _) ?_
                obtain ⟨j_14, hj_14, ej_14⟩ := bd_ex (mi_to hf6.1 (i := k21) (by omega))
                refine g_iald hC V 1 rfl (vp_in_nI (by omega) (by omega)) (v := (nI j_14)) (by rw [nI_clamp (by omega)]; exact ej_14) dX8_lives_50 ?_
                refine lv_istore (lv' := [(10, .int (nI j_14)), (9, .int (nI k21)), (8, .int sv), (7, .int pv), (6, .int (nI k6)), (5, .int x5), (0, .ref o), (1, .int (nI cn)), (2, .int lz), (3, .int (-1)), (4, .int (nI 0))]) hx hb dX8_lives_51 hl (by decide) rfl (fun ls hl => ?_)
                refine lv_aload_n hx hb dX8_lives_53 rfl (lv_at hl 6 rfl) ?_
                refine lv_iload hx hb dX8_lives_54 (lv_at hl 1 rfl) ?_
                refine g_callVU (nA := 1) hC V hl.1 (m_isWarm_f l D T o k21 w0 g1 g2 g3 g4 tp w6 w7 w8 w9 w10 w11 w12 w13 w14 g15 bv g17 w18 w19 g20 w21 g22 g23 g24 w25 w26 w27 g28 g29 w30 g31 g32 g33 f6 (by first | assumption | omega)) w_1136 w_1138 w_s52 w_9 w_1139 (by decide +kernel) rfl ⟨(Nat.le_of_ble_eq_true rfl), (Nat.le_of_ble_eq_true rfl)⟩ 0 (ci := 8) rfl rfl [0, 1] rfl rfl (Nat.le_of_ble_eq_true rfl) dX8_lives_56 ⟨(Nat.le_of_ble_eq_true rfl), (Nat.le_of_ble_eq_true rfl)⟩ rfl (fun r w1 H locs hQ V => ?_)
                rcases hQ with ⟨rfl, rfl, f_15⟩ | ⟨rfl, rfl, f_16⟩
                · have V : gW D T A s [(o, .inr (8, [.int w0, .ref g1, .ref g2, .ref g3, .ref g4, .int (nI tp), .int w6, .int w7, .int w8, .int w9, .int w10, .int w11, .int w12, .int w13, .int w14, .ref g15, .int bv, .ref g17, .int w18, .int w19, .ref g20, .int w21, .ref g22, .ref g23, .ref g24, .int w25, .int w26, .int w27, .ref g28, .ref g29, .int w30, .ref g31, .ref g32, .ref g33])), (g1, .inl (T 0, 282, .inl f6)), (g15, .inl (T 0, 10, .inl th))] H locs := V _ [0, 0] rfl rfl rfl (by decide +kernel) rfl
                  show W p l e _ s m args below meth c H locs _ _ _ (F0 m 59 ls [.int (nI 1)])
                  refine lv_if_eq (tgt := 83) hx hb dX8_lives_59 (by decide) (fun c => absurd (show (nI 1) = 0 from c) (by decide +kernel)) (fun _ => ?_)
                  refine lv_aload_n hx hb dX8_lives_62 rfl (lv_at hl 6 rfl) ?_
                  refine lv_iload hx hb dX8_lives_63 (lv_at hl 1 rfl) ?_
                  refine g_callVU (nA := 1) hC V hl.1 (m_isDone l D T o k21 w0 g1 g2 g3 g4 tp w6 w7 w8 w9 w10 w11 w12 w13 w14 g15 bv g17 w18 w19 g20 w21 g22 g23 g24 w25 w26 w27 g28 g29 w30 g31 g32 g33 f6 (by first | assumption | omega)) w_1088 w_1090 w_s47 w_9 w_1091 (by decide +kernel) rfl ⟨(Nat.le_of_ble_eq_true rfl), (Nat.le_of_ble_eq_true rfl)⟩ 0 (ci := 8) rfl rfl [0, 1] rfl rfl (Nat.le_of_ble_eq_true rfl) dX8_lives_65 ⟨(Nat.le_of_ble_eq_true rfl), (Nat.le_of_ble_eq_true rfl)⟩ rfl (fun r w1 H locs hQ V => ?_)
                  rcases hQ with ⟨rfl, rfl, f_17⟩ | ⟨rfl, rfl, f_18⟩
                  · have V : gW D T A s [(o, .inr (8, [.int w0, .ref g1, .ref g2, .ref g3, .ref g4, .int (nI tp), .int w6, .int w7, .int w8, .int w9, .int w10, .int w11, .int w12, .int w13, .int w14, .ref g15, .int bv, .ref g17, .int w18, .int w19, .ref g20, .int w21, .ref g22, .ref g23, .ref g24, .int w25, .int w26, .int w27, .ref g28, .ref g29, .int w30, .ref g31, .ref g32, .ref g33])), (g1, .inl (T 0, 282, .inl f6)), (g15, .inl (T 0, 10, .inl th))] H locs := V _ [0, 0] rfl rfl rfl (by decide +kernel) rfl
                    show W p l e _ s m args below meth c H locs _ _ _ (F0 m 68 ls [.int (nI 1)])
                    have hnc : ¬ cuStr f6 k21 := fun q => f_17 q.1
                    refine lv_if_ne (tgt := 83) hx hb dX8_lives_68 (by decide) (fun _ => ?_) (fun c => absurd (show (nI 1) = 0 from c) (by decide +kernel))
                    refine lv_aload_n hx hb dX8_lives_83 rfl (lv_at hl 6 rfl) ?_
                    refine g_get hC V (ci := 8) uwX8 0 rfl rfl 1 (by decide) w_913 rfl rfl dX8_lives_84 ?_
                    refine lv_bipush (v := (nI 24)) hx hb dX8_lives_87 (by decide +kernel) ?_
                    refine lv_iload hx hb dX8_lives_89 (lv_at hl 0 rfl) ?_
                    refine lv_iadd hx hb dX8_lives_91 ?_
                    refine g_vi (y := (nI (24 + j_14))) (nI_add _ _) ?_
                    obtain ⟨j_19, hj_19, ej_19⟩ := bd_ex (mi_heat hf6.1 (i := j_14) (by omega))
                    refine g_iald hC V 1 rfl (vp_in_nI (by omega) (by omega)) (v := (nI j_19)) (by rw [nI_clamp (by omega)]; exact ej_19) dX8_lives_92 ?_
                    refine lv_aload_n hx hb dX8_lives_93 rfl (lv_at hl 6 rfl) ?_
                    refine g_get hC V (ci := 8) uwX8 0 rfl rfl 1 (by decide) w_913 rfl rfl dX8_lives_94 ?_
                    refine lv_iconst (v := (nI 4)) hx hb dX8_lives_97 (by decide +kernel) ?_
                    refine lv_iload hx hb dX8_lives_98 (lv_at hl 1 rfl) ?_
                    refine lv_iadd hx hb dX8_lives_100 ?_
                    refine g_vi (y := (nI (4 + k21))) (nI_add _ _) ?_
                    obtain ⟨j_20, hj_20, ej_20⟩ := bd_ex (mi_blast hf6.1 (i := k21) (by omega))
                    refine g_iald hC V 1 rfl (vp_in_nI (by omega) (by omega)) (v := (nI j_20)) (by rw [nI_clamp (by omega)]; exact ej_20) dX8_lives_101 ?_
                    refine lv_iadd hx hb dX8_lives_102 ?_
                    refine g_vi (y := (nI (j_19 + j_20))) (nI_add _ _) ?_
                    refine lv_aload_n hx hb dX8_lives_103 rfl (lv_at hl 6 rfl) ?_
                    refine g_get hC V (ci := 8) uwX8 0 rfl rfl 1 (by decide) w_913 rfl rfl dX8_lives_104 ?_
                    refine lv_bipush (v := (nI 44)) hx hb dX8_lives_107 (by decide +kernel) ?_
                    refine lv_iload hx hb dX8_lives_109 (lv_at hl 0 rfl) ?_
                    refine lv_iadd hx hb dX8_lives_111 ?_
                    refine g_vi (y := (nI (44 + j_14))) (nI_add _ _) ?_
                    refine g_iald hC V 1 rfl (vp_in_nI (by omega) (by omega)) (v := (f6 (44 + j_14))) (congrArg _ (nI_clamp (by omega))) dX8_lives_112 ?_
                    refine lv_icmp_gt (tgt := 125) hx hb dX8_lives_113 (by decide) (fun c_21 => ?_) (fun c_21 => ?_)
                    · skip
                      refine lv_iinc (v := (nI (k21 + 1))) (lv' := [(9, .int (nI (k21 + 1))), (10, .int (nI j_14)), (8, .int sv), (7, .int pv), (6, .int (nI k6)), (5, .int x5), (0, .ref o), (1, .int (nI cn)), (2, .int lz), (3, .int (-1)), (4, .int (nI 0))]) hx hb dX8_lives_125 hl (k := 1) rfl (nI_1 _) (by decide) rfl (fun ls hl => ?_)
                      refine lv_goto (tgt := 21) hx hb dX8_lives_128 (by decide) ?_
                      exact ih_21 (k21 + 1) pv sv (by omega) (by rw [hsv]; exact (cP_n hlz hnc (fun q => absurd c_21 ((bea_m ej_14 (by omega) ej_19 ej_20).mpr q))).1) (by rw [hpv]; exact (cP_n hlz hnc (fun q => absurd c_21 ((bea_m ej_14 (by omega) ej_19 ej_20).mpr q))).2) (by omega) _ _ _ V (lv_sub hl [0, 2, 3, 4, 5, 6, 7, 8, 9, 10] rfl)
                    · skip
                      refine lv_iload hx hb dX8_lives_116 (lv_at hl 3 rfl) ?_
                      refine lv_iconst (v := (nI 1)) hx hb dX8_lives_118 (by decide +kernel) ?_
                      refine lv_iload hx hb dX8_lives_119 (lv_at hl 1 rfl) ?_
                      refine lv_ishl hx hb dX8_lives_121 ?_
                      refine lv_ior hx hb dX8_lives_122 ?_
                      refine lv_istore (lv' := [(7, .int (pv ||| ((nI 1) <<< ((nI k21) &&& 31)))), (10, .int (nI j_14)), (9, .int (nI k21)), (8, .int sv), (6, .int (nI k6)), (5, .int x5), (0, .ref o), (1, .int (nI cn)), (2, .int lz), (3, .int (-1)), (4, .int (nI 0))]) hx hb dX8_lives_123 hl (by decide) rfl (fun ls hl => ?_)
                      refine lv_iinc (v := (nI (k21 + 1))) (lv' := [(9, .int (nI (k21 + 1))), (7, .int (pv ||| ((nI 1) <<< ((nI k21) &&& 31)))), (10, .int (nI j_14)), (8, .int sv), (6, .int (nI k6)), (5, .int x5), (0, .ref o), (1, .int (nI cn)), (2, .int lz), (3, .int (-1)), (4, .int (nI 0))]) hx hb dX8_lives_125 hl (k := 2) rfl (nI_1 _) (by decide) rfl (fun ls hl => ?_)
                      refine lv_goto (tgt := 21) hx hb dX8_lives_128 (by decide) ?_
                      exact ih_21 (k21 + 1) (pv ||| ((nI 1) <<< ((nI k21) &&& 31))) sv (by omega) (by rw [hsv]; exact (cP_y hlz hnc ((bea_m ej_14 (by omega) ej_19 ej_20).mp c_21)).1) (by rw [hpv]; exact (cP_y hlz hnc ((bea_m ej_14 (by omega) ej_19 ej_20).mp c_21)).2) (by omega) _ _ _ V (lv_sub hl [0, 3, 1, 4, 5, 6, 7, 8, 9, 10] rfl)
                  · have V : gW D T A s [(o, .inr (8, [.int w0, .ref g1, .ref g2, .ref g3, .ref g4, .int (nI tp), .int w6, .int w7, .int w8, .int w9, .int w10, .int w11, .int w12, .int w13, .int w14, .ref g15, .int bv, .ref g17, .int w18, .int w19, .ref g20, .int w21, .ref g22, .ref g23, .ref g24, .int w25, .int w26, .int w27, .ref g28, .ref g29, .int w30, .ref g31, .ref g32, .ref g33])), (g1, .inl (T 0, 282, .inl f6)), (g15, .inl (T 0, 10, .inl th))] H locs := V _ [0, 0] rfl rfl rfl (by decide +kernel) rfl
                    show W p l e _ s m args below meth c H locs _ _ _ (F0 m 68 ls [.int (nI 0)])
                    refine lv_if_ne (tgt := 83) hx hb dX8_lives_68 (by decide) (fun c => absurd (show (nI 0) = 0 by decide +kernel) c) (fun _ => ?_)
                    refine lv_iload hx hb dX8_lives_71 (lv_at hl 2 rfl) ?_
                    refine lv_iconst (v := (nI 1)) hx hb dX8_lives_73 (by decide +kernel) ?_
                    refine lv_iload hx hb dX8_lives_74 (lv_at hl 1 rfl) ?_
                    refine lv_ishl hx hb dX8_lives_76 ?_
                    refine lv_ior hx hb dX8_lives_77 ?_
                    refine lv_istore (lv' := [(8, .int (sv ||| ((nI 1) <<< ((nI k21) &&& 31)))), (10, .int (nI j_14)), (9, .int (nI k21)), (7, .int pv), (6, .int (nI k6)), (5, .int x5), (0, .ref o), (1, .int (nI cn)), (2, .int lz), (3, .int (-1)), (4, .int (nI 0))]) hx hb dX8_lives_78 hl (by decide) rfl (fun ls hl => ?_)
                    refine lv_goto (tgt := 125) hx hb dX8_lives_80 (by decide) ?_
                    refine lv_iinc (v := (nI (k21 + 1))) (lv' := [(9, .int (nI (k21 + 1))), (8, .int (sv ||| ((nI 1) <<< ((nI k21) &&& 31)))), (10, .int (nI j_14)), (7, .int pv), (6, .int (nI k6)), (5, .int x5), (0, .ref o), (1, .int (nI cn)), (2, .int lz), (3, .int (-1)), (4, .int (nI 0))]) hx hb dX8_lives_125 hl (k := 2) rfl (nI_1 _) (by decide) rfl (fun ls hl => ?_)
                    refine lv_goto (tgt := 21) hx hb dX8_lives_128 (by decide) ?_
                    exact ih_21 (k21 + 1) pv (sv ||| ((nI 1) <<< ((nI k21) &&& 31))) (by omega) (by rw [hsv]; exact (cS_y hlz ⟨f_18, f_15⟩).1) (by rw [hpv]; exact (cS_y hlz ⟨f_18, f_15⟩).2) (by omega) _ _ _ V (lv_sub hl [0, 1, 3, 4, 5, 6, 7, 8, 9, 10] rfl)
                · have V : gW D T A s [(o, .inr (8, [.int w0, .ref g1, .ref g2, .ref g3, .ref g4, .int (nI tp), .int w6, .int w7, .int w8, .int w9, .int w10, .int w11, .int w12, .int w13, .int w14, .ref g15, .int bv, .ref g17, .int w18, .int w19, .ref g20, .int w21, .ref g22, .ref g23, .ref g24, .int w25, .int w26, .int w27, .ref g28, .ref g29, .int w30, .ref g31, .ref g32, .ref g33])), (g1, .inl (T 0, 282, .inl f6)), (g15, .inl (T 0, 10, .inl th))] H locs := V _ [0, 0] rfl rfl rfl (by decide +kernel) rfl
                  show W p l e _ s m args below meth c H locs _ _ _ (F0 m 59 ls [.int (nI 0)])
                  have hnc : ¬ cuStr f6 k21 := fun q => f_16 q.2
                  refine lv_if_eq (tgt := 83) hx hb dX8_lives_59 (by decide) (fun _ => ?_) (fun c => absurd (show (nI 0) = 0 by decide +kernel) c)
                  refine lv_aload_n hx hb dX8_lives_83 rfl (lv_at hl 6 rfl) ?_
                  refine g_get hC V (ci := 8) uwX8 0 rfl rfl 1 (by decide) w_913 rfl rfl dX8_lives_84 ?_
                  refine lv_bipush (v := (nI 24)) hx hb dX8_lives_87 (by decide +kernel) ?_
                  refine lv_iload hx hb dX8_lives_89 (lv_at hl 0 rfl) ?_
                  refine lv_iadd hx hb dX8_lives_91 ?_
                  refine g_vi (y := (nI (24 + j_14))) (nI_add _ _) ?_
                  obtain ⟨j_22, hj_22, ej_22⟩ := bd_ex (mi_heat hf6.1 (i := j_14) (by omega))
                  refine g_iald hC V 1 rfl (vp_in_nI (by omega) (by omega)) (v := (nI j_22)) (by rw [nI_clamp (by omega)]; exact ej_22) dX8_lives_92 ?_
                  refine lv_aload_n hx hb dX8_lives_93 rfl (lv_at hl 6 rfl) ?_
                  refine g_get hC V (ci := 8) uwX8 0 rfl rfl 1 (by decide) w_913 rfl rfl dX8_lives_94 ?_
                  refine lv_iconst (v := (nI 4)) hx hb dX8_lives_97 (by decide +kernel) ?_
                  refine lv_iload hx hb dX8_lives_98 (lv_at hl 1 rfl) ?_
                  refine lv_iadd hx hb dX8_lives_100 ?_
                  refine g_vi (y := (nI (4 + k21))) (nI_add _ _) ?_
                  obtain ⟨j_23, hj_23, ej_23⟩ := bd_ex (mi_blast hf6.1 (i := k21) (by omega))
                  refine g_iald hC V 1 rfl (vp_in_nI (by omega) (by omega)) (v := (nI j_23)) (by rw [nI_clamp (by omega)]; exact ej_23) dX8_lives_101 ?_
                  refine lv_iadd hx hb dX8_lives_102 ?_
                  refine g_vi (y := (nI (j_22 + j_23))) (nI_add _ _) ?_
                  refine lv_aload_n hx hb dX8_lives_103 rfl (lv_at hl 6 rfl) ?_
                  refine g_get hC V (ci := 8) uwX8 0 rfl rfl 1 (by decide) w_913 rfl rfl dX8_lives_104 ?_
                  refine lv_bipush (v := (nI 44)) hx hb dX8_lives_107 (by decide +kernel) ?_
                  refine lv_iload hx hb dX8_lives_109 (lv_at hl 0 rfl) ?_
                  refine lv_iadd hx hb dX8_lives_111 ?_
                  refine g_vi (y := (nI (44 + j_14))) (nI_add _ _) ?_
                  refine g_iald hC V 1 rfl (vp_in_nI (by omega) (by omega)) (v := (f6 (44 + j_14))) (congrArg _ (nI_clamp (by omega))) dX8_lives_112 ?_
                  refine lv_icmp_gt (tgt := 125) hx hb dX8_lives_113 (by decide) (fun c_24 => ?_) (fun c_24 => ?_)
                  · skip
                    refine lv_iinc (v := (nI (k21 + 1))) (lv' := [(9, .int (nI (k21 + 1))), (10, .int (nI j_14)), (8, .int sv), (7, .int pv), (6, .int (nI k6)), (5, .int x5), (0, .ref o), (1, .int (nI cn)), (2, .int lz), (3, .int (-1)), (4, .int (nI 0))]) hx hb dX8_lives_125 hl (k := 1) rfl (nI_1 _) (by decide) rfl (fun ls hl => ?_)
                    refine lv_goto (tgt := 21) hx hb dX8_lives_128 (by decide) ?_
                    exact ih_21 (k21 + 1) pv sv (by omega) (by rw [hsv]; exact (cP_n hlz hnc (fun q => absurd c_24 ((bea_m ej_14 (by omega) ej_22 ej_23).mpr q))).1) (by rw [hpv]; exact (cP_n hlz hnc (fun q => absurd c_24 ((bea_m ej_14 (by omega) ej_22 ej_23).mpr q))).2) (by omega) _ _ _ V (lv_sub hl [0, 2, 3, 4, 5, 6, 7, 8, 9, 10] rfl)
                  · skip
                    refine lv_iload hx hb dX8_lives_116 (lv_at hl 3 rfl) ?_
                    refine lv_iconst (v := (nI 1)) hx hb dX8_lives_118 (by decide +kernel) ?_
                    refine lv_iload hx hb dX8_lives_119 (lv_at hl 1 rfl) ?_
                    refine lv_ishl hx hb dX8_lives_121 ?_
                    refine lv_ior hx hb dX8_lives_122 ?_
                    refine lv_istore (lv' := [(7, .int (pv ||| ((nI 1) <<< ((nI k21) &&& 31)))), (10, .int (nI j_14)), (9, .int (nI k21)), (8, .int sv), (6, .int (nI k6)), (5, .int x5), (0, .ref o), (1, .int (nI cn)), (2, .int lz), (3, .int (-1)), (4, .int (nI 0))]) hx hb dX8_lives_123 hl (by decide) rfl (fun ls hl => ?_)
                    refine lv_iinc (v := (nI (k21 + 1))) (lv' := [(9, .int (nI (k21 + 1))), (7, .int (pv ||| ((nI 1) <<< ((nI k21) &&& 31)))), (10, .int (nI j_14)), (8, .int sv), (6, .int (nI k6)), (5, .int x5), (0, .ref o), (1, .int (nI cn)), (2, .int lz), (3, .int (-1)), (4, .int (nI 0))]) hx hb dX8_lives_125 hl (k := 2) rfl (nI_1 _) (by decide) rfl (fun ls hl => ?_)
                    refine lv_goto (tgt := 21) hx hb dX8_lives_128 (by decide) ?_
                    exact ih_21 (k21 + 1) (pv ||| ((nI 1) <<< ((nI k21) &&& 31))) sv (by omega) (by rw [hsv]; exact (cP_y hlz hnc ((bea_m ej_14 (by omega) ej_22 ej_23).mp c_24)).1) (by rw [hpv]; exact (cP_y hlz hnc ((bea_m ej_14 (by omega) ej_22 ej_23).mp c_24)).2) (by omega) _ _ _ V (lv_sub hl [0, 3, 1, 4, 5, 6, 7, 8, 9, 10] rfl)
              · skip
                refine lv_goto (tgt := 125) hx hb dX8_lives_38 (by decide) ?_
                refine lv_iinc (v := (nI (k21 + 1))) (lv' := [(9, .int (nI (k21 + 1))), (8, .int sv), (7, .int pv), (6, .int (nI k6)), (5, .int x5), (0, .ref o), (1, .int (nI cn)), (2, .int lz), (3, .int (-1)), (4, .int (nI 0))]) hx hb dX8_lives_125 hl (k := 0) rfl (nI_1 _) (by decide) rfl (fun ls hl => ?_)
                refine lv_goto (tgt := 21) hx hb dX8_lives_128 (by decide) ?_
                exact ih_21 (k21 + 1) pv sv (by omega) (by rw [hsv]; exact (cS_lz c_13).1) (by rw [hpv]; exact (cS_lz c_13).2) (by omega) _ _ _ V (lv_sub hl [0, 1, 2, 3, 4, 5, 6, 7, 8, 9] rfl)
        exact L_3 _ 0 (nI 0) (nI 0) (by omega) rfl rfl (Nat.lt_succ_self _) _ _ _ V (lv_sub hl [0, 1, 2, 3, 4, 5, 6, 7, 8, 9] rfl)
  exact L_1 _ 0 (nI 0) w16 fh fa (by omega) (by assumption) rfl rfl (Nat.lt_succ_self _) _ _ _ V (lv_sub hl [0, 1, 2, 3, 4, 5, 6] rfl)

/-! so many MINUTES -/
def tmA (M : Nat) (m v : Int32) : Int32 := if v < nI 1 ∨ nI M < v then -3 else if nI 9999 < m + v then -5 else nI 0
theorem tm_3 {M : Nat} {m v : Int32} (h : v < nI 1 ∨ nI M < v) : -3 = tmA M m v := by unfold tmA; rw [if_pos h]
theorem tm_5 {M : Nat} {m v : Int32} (h1 : ¬ v < nI 1) (h2 : ¬ nI M < v) (h : nI 9999 < m + v) : -5 = tmA M m v := by unfold tmA; rw [if_neg (fun q => q.elim h1 h2), if_pos h]
theorem tm_0 {M : Nat} {m v : Int32} (h1 : ¬ v < nI 1) (h2 : ¬ nI M < v) (h : ¬ nI 9999 < m + v) : nI 0 = tmA M m v := by unfold tmA; rw [if_neg (fun q => q.elim h1 h2), if_neg h]
def livA (n : Nat) (f : Nat → Int32) (v : Int32) : Int32 := if tmA 200 (f 1) v = nI 0 then cuC n f (-1) v.toNatClampNeg else tmA 200 (f 1) v
def livF (n : Nat) (f : Nat → Int32) (v : Int32) : Nat → Int32 := if tmA 200 (f 1) v = nI 0 then cuI n f (-1) v.toNatClampNeg else f
theorem liv_n {n : Nat} {f : Nat → Int32} {v z : Int32} (h : z = tmA 200 (f 1) v) (hz : ¬ z = 0) : z = livA n f v ∧ f = livF n f v := by
  have q : ¬ tmA 200 (f 1) v = nI 0 := fun e => hz (h.trans e)
  unfold livA livF; rw [if_neg q, if_neg q]; exact ⟨h, rfl⟩
theorem liv_y {n j : Nat} {f : Nat → Int32} {v : Int32} (h : nI 0 = tmA 200 (f 1) v) (e : v = nI j) (hj : j < 1000) : cuC n f (-1) j = livA n f v ∧ cuI n f (-1) j = livF n f v := by
  unfold livA livF; rw [if_pos h.symm, if_pos h.symm, e, nI_clamp (by omega)]; exact ⟨rfl, rfl⟩
theorem il_0 {n : Nat} (hn : n ≤ 10) : ∀ i, i < n → (bitP (nI 0) i ↔ nI i = -1) := by
  intro i hi
  have H : ∀ i : Fin 10, ¬ bitP (nI 0) i.1 := by decide +kernel
  exact ⟨fun q => absurd q (H ⟨i, by omega⟩), fun q => absurd q (m1_ne i (by omega))⟩
theorem SR_cu {n k : Nat} {m l o mm : Int32} {f1 f2 f3 f4 f5 f6 f7 f9 g3 g7 fa : Nat → Int32} {lz : Int32} (hn : n ≤ 10) (h : SR n m l o f1 f2 f3 f4 f5 f6 f7 f9 fa) (h3 : ∀ i, i < n → g3 i = cuI n fa lz k (24 + i)) (h7 : ∀ i, i < n → g7 i = cuI n fa lz k (64 + i)) (hm : mm = cuI n fa lz k 1) : SR n mm l o f1 f2 g3 f4 f5 f6 g7 f9 (cuI n fa lz k) := by
  obtain ⟨a0, a1, a2, a3, a4⟩ := h
  refine ⟨(cuI_o hn (by decide) (by omega) k).trans a0, hm.symm, (cuI_o hn (by decide) (by omega) k).trans a2, (cuI_o hn (by decide) (by omega) k).trans a3, fun i hi => ?_⟩
  obtain ⟨q1, q2, q3, q4, q5, q6, q7, q9⟩ := a4 i hi
  exact ⟨q1.trans (cuI_o hn (by omega) (by omega) k).symm, q2.trans (cuI_o hn (by omega) (by omega) k).symm, h3 i hi, q4.trans (cuI_o hn (by omega) (by omega) k).symm, q5.trans (cuI_o hn (by omega) (by omega) k).symm, q6.trans (cuI_o hn (by omega) (by omega) k).symm, h7 i hi, q9.trans (cuI_o hn (by omega) (by omega) k).symm⟩

def q_x_refMin_f (T : Nat → ClassId) (o : Nat) (v : Int32) (M : Nat) (n0 : Nat) (s0 : Nat) (im : Nat) (iz : Nat) (rw : Nat) (t0 : Nat) (u0 : Nat) (h0 : Nat) (y0 : Nat) (sv : Value) (nn : Nat) (nm : Int32) (nl : Int32) (no : Int32) (nu : Int32) (n1 : Nat) (n2 : Nat) (n3 : Nat) (n4 : Nat) (n5 : Nat) (n6 : Nat) (n7 : Nat) (n8 : Nat) (n9 : Nat) (n10 : Nat) : Option Value → va_W → Prop := fun rr ww => (∃ (j : Nat), rr = some (.int (nI 0)) ∧ ww = [(o, .inr (7, [.ref n0, .ref s0, .ref im, .ref iz, .ref rw, .ref t0, .ref u0, .ref h0, .ref y0, sv])), (n0, .inr (5, [.int (nI nn), .int nm, .int nl, .int no, .int nu, .ref n1, .ref n2, .ref n3, .ref n4, .ref n5, .ref n6, .ref n7, .ref n8, .ref n9, .ref n10]))] ∧ 1 ≤ j ∧ j ≤ M ∧ v = nI j ∧ nI 0 = tmA M nm v) ∨ (∃ (z : Int32), rr = some (.int z) ∧ ww = [(o, .inr (7, [.ref n0, .ref s0, .ref im, .ref iz, .ref rw, .ref t0, .ref u0, .ref h0, .ref y0, sv])), (n0, .inr (5, [.int (nI nn), .int nm, .int nl, .int no, .int nu, .ref n1, .ref n2, .ref n3, .ref n4, .ref n5, .ref n6, .ref n7, .ref n8, .ref n9, .ref n10]))] ∧ ¬ z = 0 ∧ z = tmA M nm v)
set_option maxHeartbeats 4000000 in
set_option maxRecDepth 100000 in
theorem x_refMin_f (l : Launch) (D : va_G) (T : Nat → ClassId) (o : Nat) (v : Int32) (M : Nat) (n0 : Nat) (s0 : Nat) (im : Nat) (iz : Nat) (rw : Nat) (t0 : Nat) (u0 : Nat) (h0 : Nat) (y0 : Nat) (sv : Value) (nn : Nat) (nm : Int32) (nl : Int32) (no : Int32) (nu : Int32) (n1 : Nat) (n2 : Nat) (n3 : Nat) (n4 : Nat) (n5 : Nat) (n6 : Nat) (n7 : Nat) (n8 : Nat) (n9 : Nat) (n10 : Nat) (h_c : M ≤ 200) : Ct l yX7_refusedMinutes cX7_refusedMinutes 3 (some .int) 1 0 0 D T [.ref o, .int v, .int (nI M)] [(o, .inr (7, [.ref n0, .ref s0, .ref im, .ref iz, .ref rw, .ref t0, .ref u0, .ref h0, .ref y0, sv])), (n0, .inr (5, [.int (nI nn), .int nm, .int nl, .int no, .int nu, .ref n1, .ref n2, .ref n3, .ref n4, .ref n5, .ref n6, .ref n7, .ref n8, .ref n9, .ref n10]))] (q_x_refMin_f T o v M n0 s0 im iz rw t0 u0 h0 y0 sv nn nm nl no nu n1 n2 n3 n4 n5 n6 n7 n8 n9 n10) := by
  refine Ct.of (cc := cX7_refusedMinutes) (maxL := 3) (ret := (some .int)) (by decide) (Nat.le_of_ble_eq_true rfl) ?_
  intro p e s m args below meth c A ls hC hnm V hl
  obtain ⟨hx, hb, hr, hml, hown, hts, hlocks⟩ := id hC
  generalize hH : s.heap = H at V ⊢
  clear hH
  have hl : lv_has ls 3 [(0, .ref o), (1, .int v), (2, .int (nI M))] := hl
  generalize hlo : ([] : List Loc) = locs at V ⊢
  clear hlo
  refine lv_iload_n hx hb dX7_refusedMinutes_0 rfl (lv_at hl 1 rfl) ?_
  refine lv_iconst (v := (nI 1)) hx hb dX7_refusedMinutes_1 (by decide +kernel) ?_
  refine lv_iload_n hx hb dX7_refusedMinutes_2 rfl (lv_at hl 2 rfl) ?_
  refine g_callSU (nA := 3) hC V hl.1 (c_isWithin l D T v (nI 1) (nI M)) w_292 w_293 w_2 w_294 (by decide +kernel) rfl ⟨(Nat.le_of_ble_eq_true rfl), (Nat.le_of_ble_eq_true rfl)⟩ [] rfl rfl (Nat.le_of_ble_eq_true rfl) dX7_refusedMinutes_3 ⟨(Nat.le_of_ble_eq_true rfl), (Nat.le_of_ble_eq_true rfl)⟩ rfl (fun r w1 H locs hQ V => ?_)
  rcases hQ with ⟨rfl, rfl, f_1, f_2⟩ | ⟨rfl, rfl, f_3⟩
  · have V : gW D T A s [(o, .inr (7, [.ref n0, .ref s0, .ref im, .ref iz, .ref rw, .ref t0, .ref u0, .ref h0, .ref y0, sv])), (n0, .inr (5, [.int (nI nn), .int nm, .int nl, .int no, .int nu, .ref n1, .ref n2, .ref n3, .ref n4, .ref n5, .ref n6, .ref n7, .ref n8, .ref n9, .ref n10]))] H locs := V _ [] rfl rfl rfl (by decide +kernel) rfl
    show W p l e _ s m args below meth c H locs _ _ _ (F0 m 6 ls [.int (nI 1)])
    obtain ⟨i, hi1, hi2, ei⟩ := g_rng (by first | decide | omega) (by first | decide | omega) f_1 f_2
    rw [ei] at hl
    refine lv_if_ne (tgt := 12) hx hb dX7_refusedMinutes_6 (by decide) (fun _ => ?_) (fun c => absurd (show (nI 1) = 0 from c) (by decide +kernel))
    refine lv_aload_n hx hb dX7_refusedMinutes_12 rfl (lv_at hl 0 rfl) ?_
    refine g_get hC V (ci := 7) uwX7 0 rfl rfl 0 (by decide) w_249 rfl rfl dX7_refusedMinutes_13 ?_
    refine g_get hC V (ci := 5) uwX5 1 rfl rfl 1 (by decide) w_41 rfl rfl dX7_refusedMinutes_16 ?_
    refine lv_iload_n hx hb dX7_refusedMinutes_19 rfl (lv_at hl 1 rfl) ?_
    refine lv_iadd hx hb dX7_refusedMinutes_20 ?_
    refine lv_sipush (v := (nI 9999)) hx hb dX7_refusedMinutes_21 (by decide +kernel) ?_
    refine lv_icmp_le (tgt := 32) hx hb dX7_refusedMinutes_24 (by decide) (fun c_4 => ?_) (fun c_4 => ?_)
    · skip
      refine lv_iconst (v := (nI 0)) hx hb dX7_refusedMinutes_32 (by decide +kernel) ?_
      exact g_iret (Qr := (q_x_refMin_f T o v M n0 s0 im iz rw t0 u0 h0 y0 sv nn nm nl no nu n1 n2 n3 n4 n5 n6 n7 n8 n9 n10)) hC V ⟨(Nat.le_of_ble_eq_true rfl), (Nat.le_of_ble_eq_true rfl)⟩ (.inl ⟨i, rfl, rfl, (by assumption), (by assumption), (by assumption), (tm_0 f_1 f_2 (by rw [ei]; exact Int32.not_lt.mpr (by assumption)))⟩) dX7_refusedMinutes_33
    · skip
      refine lv_bipush (v := (-5)) hx hb dX7_refusedMinutes_27 (by decide +kernel) ?_
      refine lv_goto (tgt := 33) hx hb dX7_refusedMinutes_29 (by decide) ?_
      exact g_iret (Qr := (q_x_refMin_f T o v M n0 s0 im iz rw t0 u0 h0 y0 sv nn nm nl no nu n1 n2 n3 n4 n5 n6 n7 n8 n9 n10)) hC V ⟨(Nat.le_of_ble_eq_true rfl), (Nat.le_of_ble_eq_true rfl)⟩ (.inr ⟨(-5), rfl, rfl, (by decide +kernel), (tm_5 f_1 f_2 (by rw [ei]; exact Int32.not_le.mp (by assumption)))⟩) dX7_refusedMinutes_33
  · have V : gW D T A s [(o, .inr (7, [.ref n0, .ref s0, .ref im, .ref iz, .ref rw, .ref t0, .ref u0, .ref h0, .ref y0, sv])), (n0, .inr (5, [.int (nI nn), .int nm, .int nl, .int no, .int nu, .ref n1, .ref n2, .ref n3, .ref n4, .ref n5, .ref n6, .ref n7, .ref n8, .ref n9, .ref n10]))] H locs := V _ [] rfl rfl rfl (by decide +kernel) rfl
    show W p l e _ s m args below meth c H locs _ _ _ (F0 m 6 ls [.int (nI 0)])
    refine lv_if_ne (tgt := 12) hx hb dX7_refusedMinutes_6 (by decide) (fun c => absurd (show (nI 0) = 0 by decide +kernel) c) (fun _ => ?_)
    refine lv_bipush (v := (-3)) hx hb dX7_refusedMinutes_9 (by decide +kernel) ?_
    exact g_iret (Qr := (q_x_refMin_f T o v M n0 s0 im iz rw t0 u0 h0 y0 sv nn nm nl no nu n1 n2 n3 n4 n5 n6 n7 n8 n9 n10)) hC V ⟨(Nat.le_of_ble_eq_true rfl), (Nat.le_of_ble_eq_true rfl)⟩ (.inr ⟨(-3), rfl, rfl, (by decide +kernel), (tm_3 (by assumption))⟩) dX7_refusedMinutes_11

def q_m_refTime_f (T : Nat → ClassId) (o : Nat) (v : Int32) (w0 : Int32) (g1 : Nat) (g2 : Nat) (g3 : Nat) (g4 : Nat) (tp : Nat) (w6 : Int32) (w7 : Int32) (w8 : Int32) (w9 : Int32) (w10 : Int32) (w11 : Int32) (w12 : Int32) (w13 : Int32) (w14 : Int32) (g15 : Nat) (w16 : Int32) (g17 : Nat) (w18 : Int32) (w19 : Int32) (g20 : Nat) (w21 : Int32) (g22 : Nat) (g23 : Nat) (g24 : Nat) (w25 : Int32) (w26 : Int32) (w27 : Int32) (g28 : Nat) (g29 : Nat) (w30 : Int32) (g31 : Nat) (g32 : Nat) (g33 : Nat) (fa : Nat → Int32) : Option Value → va_W → Prop := fun rr ww => (∃ (j : Nat), rr = some (.int (nI 0)) ∧ ww = [(o, .inr (8, [.int w0, .ref g1, .ref g2, .ref g3, .ref g4, .int (nI tp), .int w6, .int w7, .int w8, .int w9, .int w10, .int w11, .int w12, .int w13, .int w14, .ref g15, .int w16, .ref g17, .int w18, .int w19, .ref g20, .int w21, .ref g22, .ref g23, .ref g24, .int w25, .int w26, .int w27, .ref g28, .ref g29, .int w30, .ref g31, .ref g32, .ref g33])), (g1, .inl (T 0, 282, .inl fa))] ∧ 1 ≤ j ∧ j ≤ 200 ∧ v = nI j ∧ nI 0 = tmA 200 (fa 1) v) ∨ (∃ (z : Int32), rr = some (.int z) ∧ ww = [(o, .inr (8, [.int w0, .ref g1, .ref g2, .ref g3, .ref g4, .int (nI tp), .int w6, .int w7, .int w8, .int w9, .int w10, .int w11, .int w12, .int w13, .int w14, .ref g15, .int w16, .ref g17, .int w18, .int w19, .ref g20, .int w21, .ref g22, .ref g23, .ref g24, .int w25, .int w26, .int w27, .ref g28, .ref g29, .int w30, .ref g31, .ref g32, .ref g33])), (g1, .inl (T 0, 282, .inl fa))] ∧ ¬ z = 0 ∧ z = tmA 200 (fa 1) v)
set_option maxHeartbeats 4000000 in
set_option maxRecDepth 100000 in
theorem m_refTime_f (l : Launch) (D : va_G) (T : Nat → ClassId) (o : Nat) (v : Int32) (w0 : Int32) (g1 : Nat) (g2 : Nat) (g3 : Nat) (g4 : Nat) (tp : Nat) (w6 : Int32) (w7 : Int32) (w8 : Int32) (w9 : Int32) (w10 : Int32) (w11 : Int32) (w12 : Int32) (w13 : Int32) (w14 : Int32) (g15 : Nat) (w16 : Int32) (g17 : Nat) (w18 : Int32) (w19 : Int32) (g20 : Nat) (w21 : Int32) (g22 : Nat) (g23 : Nat) (g24 : Nat) (w25 : Int32) (w26 : Int32) (w27 : Int32) (g28 : Nat) (g29 : Nat) (w30 : Int32) (g31 : Nat) (g32 : Nat) (g33 : Nat) (fa : Nat → Int32) : Ct l yX8_refusesTime cX8_refusesTime 2 (some .int) 1 0 0 D T [.ref o, .int v] [(o, .inr (8, [.int w0, .ref g1, .ref g2, .ref g3, .ref g4, .int (nI tp), .int w6, .int w7, .int w8, .int w9, .int w10, .int w11, .int w12, .int w13, .int w14, .ref g15, .int w16, .ref g17, .int w18, .int w19, .ref g20, .int w21, .ref g22, .ref g23, .ref g24, .int w25, .int w26, .int w27, .ref g28, .ref g29, .int w30, .ref g31, .ref g32, .ref g33])), (g1, .inl (T 0, 282, .inl fa))] (q_m_refTime_f T o v w0 g1 g2 g3 g4 tp w6 w7 w8 w9 w10 w11 w12 w13 w14 g15 w16 g17 w18 w19 g20 w21 g22 g23 g24 w25 w26 w27 g28 g29 w30 g31 g32 g33 fa) := by
  refine Ct.of (cc := cX8_refusesTime) (maxL := 2) (ret := (some .int)) (by decide) (Nat.le_of_ble_eq_true rfl) ?_
  intro p e s m args below meth c A ls hC hnm V hl
  obtain ⟨hx, hb, hr, hml, hown, hts, hlocks⟩ := id hC
  generalize hH : s.heap = H at V ⊢
  clear hH
  have hl : lv_has ls 2 [(0, .ref o), (1, .int v)] := hl
  generalize hlo : ([] : List Loc) = locs at V ⊢
  clear hlo
  refine lv_iload_n hx hb dX8_refusesTime_0 rfl (lv_at hl 1 rfl) ?_
  refine lv_i2l (v := v.toInt64) hx hb dX8_refusesTime_1 rfl ?_
  refine lv_lconst (v := (nI 1).toInt64) hx hb dX8_refusesTime_2 (by decide +kernel) ?_
  refine lv_ldc2 (v := (200)) hx hb hown (hts _ w_1178) dX8_refusesTime_3 ?_
  refine g_vl (y := (nI 200).toInt64) (by decide +kernel) ?_
  refine g_callSU (nA := 3) hC V hl.1 (m_within l D T v (nI 1) (nI 200)) w_1023 w_1024 w_9 w_1025 (by decide +kernel) rfl ⟨(Nat.le_of_ble_eq_true rfl), (Nat.le_of_ble_eq_true rfl)⟩ [] rfl rfl (Nat.le_of_ble_eq_true rfl) dX8_refusesTime_6 ⟨(Nat.le_of_ble_eq_true rfl), (Nat.le_of_ble_eq_true rfl)⟩ rfl (fun r w1 H locs hQ V => ?_)
  rcases hQ with ⟨rfl, rfl, f_1, f_2⟩ | ⟨rfl, rfl, f_3⟩
  · have V : gW D T A s [(o, .inr (8, [.int w0, .ref g1, .ref g2, .ref g3, .ref g4, .int (nI tp), .int w6, .int w7, .int w8, .int w9, .int w10, .int w11, .int w12, .int w13, .int w14, .ref g15, .int w16, .ref g17, .int w18, .int w19, .ref g20, .int w21, .ref g22, .ref g23, .ref g24, .int w25, .int w26, .int w27, .ref g28, .ref g29, .int w30, .ref g31, .ref g32, .ref g33])), (g1, .inl (T 0, 282, .inl fa))] H locs := V _ [] rfl rfl rfl (by decide +kernel) rfl
    show W p l e _ s m args below meth c H locs _ _ _ (F0 m 9 ls [.int (nI 1)])
    obtain ⟨i, hi1, hi2, ei⟩ := g_rng (by first | decide | omega) (by first | decide | omega) f_1 f_2
    rw [ei] at hl
    refine lv_if_ne (tgt := 17) hx hb dX8_refusesTime_9 (by decide) (fun _ => ?_) (fun c => absurd (show (nI 1) = 0 from c) (by decide +kernel))
    refine lv_aload_n hx hb dX8_refusesTime_17 rfl (lv_at hl 0 rfl) ?_
    refine g_get hC V (ci := 8) uwX8 0 rfl rfl 1 (by decide) w_913 rfl rfl dX8_refusesTime_18 ?_
    refine lv_iconst (v := (nI 1)) hx hb dX8_refusesTime_21 (by decide +kernel) ?_
    refine g_iald hC V 1 rfl (vp_in_nI (by decide) (by decide)) (v := (fa 1)) (congrArg _ (nI_clamp (by decide))) dX8_refusesTime_22 ?_
    refine lv_iload_n hx hb dX8_refusesTime_23 rfl (lv_at hl 1 rfl) ?_
    refine lv_iadd hx hb dX8_refusesTime_24 ?_
    refine lv_sipush (v := (nI 9999)) hx hb dX8_refusesTime_25 (by decide +kernel) ?_
    refine lv_icmp_le (tgt := 36) hx hb dX8_refusesTime_28 (by decide) (fun c_4 => ?_) (fun c_4 => ?_)
    · skip
      refine lv_iconst (v := (nI 0)) hx hb dX8_refusesTime_36 (by decide +kernel) ?_
      exact g_iret (Qr := (q_m_refTime_f T o v w0 g1 g2 g3 g4 tp w6 w7 w8 w9 w10 w11 w12 w13 w14 g15 w16 g17 w18 w19 g20 w21 g22 g23 g24 w25 w26 w27 g28 g29 w30 g31 g32 g33 fa)) hC V ⟨(Nat.le_of_ble_eq_true rfl), (Nat.le_of_ble_eq_true rfl)⟩ (.inl ⟨i, rfl, rfl, (by assumption), (by assumption), (by assumption), (tm_0 f_1 f_2 (by rw [ei]; exact Int32.not_lt.mpr (by assumption)))⟩) dX8_refusesTime_37
    · skip
      refine lv_bipush (v := (-5)) hx hb dX8_refusesTime_31 (by decide +kernel) ?_
      refine lv_goto (tgt := 37) hx hb dX8_refusesTime_33 (by decide) ?_
      exact g_iret (Qr := (q_m_refTime_f T o v w0 g1 g2 g3 g4 tp w6 w7 w8 w9 w10 w11 w12 w13 w14 g15 w16 g17 w18 w19 g20 w21 g22 g23 g24 w25 w26 w27 g28 g29 w30 g31 g32 g33 fa)) hC V ⟨(Nat.le_of_ble_eq_true rfl), (Nat.le_of_ble_eq_true rfl)⟩ (.inr ⟨(-5), rfl, rfl, (by decide +kernel), (tm_5 f_1 f_2 (by rw [ei]; exact Int32.not_le.mp (by assumption)))⟩) dX8_refusesTime_37
  · have V : gW D T A s [(o, .inr (8, [.int w0, .ref g1, .ref g2, .ref g3, .ref g4, .int (nI tp), .int w6, .int w7, .int w8, .int w9, .int w10, .int w11, .int w12, .int w13, .int w14, .ref g15, .int w16, .ref g17, .int w18, .int w19, .ref g20, .int w21, .ref g22, .ref g23, .ref g24, .int w25, .int w26, .int w27, .ref g28, .ref g29, .int w30, .ref g31, .ref g32, .ref g33])), (g1, .inl (T 0, 282, .inl fa))] H locs := V _ [] rfl rfl rfl (by decide +kernel) rfl
    show W p l e _ s m args below meth c H locs _ _ _ (F0 m 9 ls [.int (nI 0)])
    refine lv_if_ne (tgt := 17) hx hb dX8_refusesTime_9 (by decide) (fun c => absurd (show (nI 0) = 0 by decide +kernel) c) (fun _ => ?_)
    refine lv_bipush (v := (-3)) hx hb dX8_refusesTime_12 (by decide +kernel) ?_
    refine lv_goto (tgt := 37) hx hb dX8_refusesTime_14 (by decide) ?_
    exact g_iret (Qr := (q_m_refTime_f T o v w0 g1 g2 g3 g4 tp w6 w7 w8 w9 w10 w11 w12 w13 w14 g15 w16 g17 w18 w19 g20 w21 g22 g23 g24 w25 w26 w27 g28 g29 w30 g31 g32 g33 fa)) hC V ⟨(Nat.le_of_ble_eq_true rfl), (Nat.le_of_ble_eq_true rfl)⟩ (.inr ⟨(-3), rfl, rfl, (by decide +kernel), (tm_3 (by assumption))⟩) dX8_refusesTime_37

def q_x_live_f (T : Nat → ClassId) (fa : Nat → Int32) (o : Nat) (n : Int32) (n0 : Nat) (s0 : Nat) (im : Nat) (iz : Nat) (rw : Nat) (t0 : Nat) (u0 : Nat) (h0 : Nat) (y0 : Nat) (sv : Value) (nn : Nat) (nm : Int32) (nl : Int32) (no : Int32) (nu : Int32) (n1 : Nat) (n2 : Nat) (n3 : Nat) (n4 : Nat) (n5 : Nat) (n6 : Nat) (n7 : Nat) (n8 : Nat) (n9 : Nat) (n10 : Nat) (nf1 : Nat → Int32) (nf2 : Nat → Int32) (nf3 : Nat → Int32) (nf4 : Nat → Int32) (nf5 : Nat → Int32) (nf6 : Nat → Int32) (nf7 : Nat → Int32) (nf8 : Nat → Int32) (nf9 : Nat → Int32) (nf10 : Nat → Int32) : Option Value → va_W → Prop := fun rr ww => (∃ (z : Int32) (mm : Int32) (uu : Int32) (g3 : Nat → Int32) (g7 : Nat → Int32) (g8 : Nat → Int32) (g10 : Nat → Int32), rr = some (.int z) ∧ ww = [(o, .inr (7, [.ref n0, .ref s0, .ref im, .ref iz, .ref rw, .ref t0, .ref u0, .ref h0, .ref y0, sv])), (n0, .inr (5, [.int (nI nn), .int mm, .int nl, .int no, .int uu, .ref n1, .ref n2, .ref n3, .ref n4, .ref n5, .ref n6, .ref n7, .ref n8, .ref n9, .ref n10])), (n1, .inl (T 0, 10, .inl nf1)), (n2, .inl (T 0, 10, .inl nf2)), (n3, .inl (T 0, 10, .inl g3)), (n4, .inl (T 0, 10, .inl nf4)), (n5, .inl (T 0, 10, .inl nf5)), (n6, .inl (T 0, 10, .inl nf6)), (n7, .inl (T 0, 10, .inl g7)), (n8, .inl (T 0, 10, .inl g8)), (n9, .inl (T 0, 10, .inl nf9)), (n10, .inl (T 0, 10, .inl g10))] ∧ z = livA nn fa n ∧ SR nn mm nl no nf1 nf2 g3 nf4 nf5 nf6 g7 nf9 (livF nn fa n))
set_option maxHeartbeats 4000000 in
set_option maxRecDepth 100000 in
theorem x_live_f (l : Launch) (D : va_G) (T : Nat → ClassId) (fa : Nat → Int32) (o : Nat) (n : Int32) (n0 : Nat) (s0 : Nat) (im : Nat) (iz : Nat) (rw : Nat) (t0 : Nat) (u0 : Nat) (h0 : Nat) (y0 : Nat) (sv : Value) (nn : Nat) (nm : Int32) (nl : Int32) (no : Int32) (nu : Int32) (n1 : Nat) (n2 : Nat) (n3 : Nat) (n4 : Nat) (n5 : Nat) (n6 : Nat) (n7 : Nat) (n8 : Nat) (n9 : Nat) (n10 : Nat) (nf1 : Nat → Int32) (nf2 : Nat → Int32) (nf3 : Nat → Int32) (nf4 : Nat → Int32) (nf5 : Nat → Int32) (nf6 : Nat → Int32) (nf7 : Nat → Int32) (nf8 : Nat → Int32) (nf9 : Nat → Int32) (nf10 : Nat → Int32) (h_n : nn ≤ 10) (h_t : ∀ i, i < nn → bd (nf9 i) nn) (h_sr : SR nn nm nl no nf1 nf2 nf3 nf4 nf5 nf6 nf7 nf9 fa) (h_a : MI nn fa) : Ct l yX7_live cX7_live 3 (some .int) 5 0 0 D T [.ref o, .int n] [(o, .inr (7, [.ref n0, .ref s0, .ref im, .ref iz, .ref rw, .ref t0, .ref u0, .ref h0, .ref y0, sv])), (n0, .inr (5, [.int (nI nn), .int nm, .int nl, .int no, .int nu, .ref n1, .ref n2, .ref n3, .ref n4, .ref n5, .ref n6, .ref n7, .ref n8, .ref n9, .ref n10])), (n1, .inl (T 0, 10, .inl nf1)), (n2, .inl (T 0, 10, .inl nf2)), (n3, .inl (T 0, 10, .inl nf3)), (n4, .inl (T 0, 10, .inl nf4)), (n5, .inl (T 0, 10, .inl nf5)), (n6, .inl (T 0, 10, .inl nf6)), (n7, .inl (T 0, 10, .inl nf7)), (n8, .inl (T 0, 10, .inl nf8)), (n9, .inl (T 0, 10, .inl nf9)), (n10, .inl (T 0, 10, .inl nf10))] (q_x_live_f T fa o n n0 s0 im iz rw t0 u0 h0 y0 sv nn nm nl no nu n1 n2 n3 n4 n5 n6 n7 n8 n9 n10 nf1 nf2 nf3 nf4 nf5 nf6 nf7 nf8 nf9 nf10) := by
  refine Ct.of (cc := cX7_live) (maxL := 3) (ret := (some .int)) (by decide) (Nat.le_of_ble_eq_true rfl) ?_
  intro p e s m args below meth c A ls hC hnm V hl
  obtain ⟨hx, hb, hr, hml, hown, hts, hlocks⟩ := id hC
  generalize hH : s.heap = H at V ⊢
  clear hH
  have hl : lv_has ls 3 [(0, .ref o), (1, .int n)] := hl
  generalize hlo : ([] : List Loc) = locs at V ⊢
  clear hlo
  refine lv_aload_n hx hb dX7_live_0 rfl (lv_at hl 0 rfl) ?_
  refine lv_iload_n hx hb dX7_live_1 rfl (lv_at hl 1 rfl) ?_
  refine lv_sipush (v := (nI 200)) hx hb dX7_live_2 (by decide +kernel) ?_
  refine g_callVU (nA := 2) hC V hl.1 (x_refMin_f l D T o n 200 n0 s0 im iz rw t0 u0 h0 y0 sv nn nm nl no nu n1 n2 n3 n4 n5 n6 n7 n8 n9 n10 (by first | assumption | omega)) w_532 w_534 w_s12 w_2 w_535 (by decide +kernel) rfl ⟨(Nat.le_of_ble_eq_true rfl), (Nat.le_of_ble_eq_true rfl)⟩ 0 (ci := 7) rfl rfl [0, 1] rfl rfl (Nat.le_of_ble_eq_true rfl) dX7_live_5 ⟨(Nat.le_of_ble_eq_true rfl), (Nat.le_of_ble_eq_true rfl)⟩ rfl (fun r w1 H locs hQ V => ?_)
  rcases hQ with ⟨j_1, rfl, rfl, f_2, f_3, f_4, f_5⟩ | ⟨z_6, rfl, rfl, f_7, f_8⟩
  · have V : gW D T A s [(o, .inr (7, [.ref n0, .ref s0, .ref im, .ref iz, .ref rw, .ref t0, .ref u0, .ref h0, .ref y0, sv])), (n0, .inr (5, [.int (nI nn), .int nm, .int nl, .int no, .int nu, .ref n1, .ref n2, .ref n3, .ref n4, .ref n5, .ref n6, .ref n7, .ref n8, .ref n9, .ref n10])), (n1, .inl (T 0, 10, .inl nf1)), (n2, .inl (T 0, 10, .inl nf2)), (n3, .inl (T 0, 10, .inl nf3)), (n4, .inl (T 0, 10, .inl nf4)), (n5, .inl (T 0, 10, .inl nf5)), (n6, .inl (T 0, 10, .inl nf6)), (n7, .inl (T 0, 10, .inl nf7)), (n8, .inl (T 0, 10, .inl nf8)), (n9, .inl (T 0, 10, .inl nf9)), (n10, .inl (T 0, 10, .inl nf10))] H locs := V _ [0, 0] rfl rfl rfl (by decide +kernel) rfl
    show W p l e _ s m args below meth c H locs _ _ _ (F0 m 8 ls [.int (nI 0)])
    rw [f_4] at hl
    refine lv_istore_n (lv' := [(2, .int (nI 0)), (0, .ref o), (1, .int (nI j_1))]) hx hb dX7_live_8 rfl hl (by decide) rfl (fun ls hl => ?_)
    refine lv_iload_n hx hb dX7_live_9 rfl (lv_at hl 0 rfl) ?_
    refine lv_if_eq (tgt := 17) hx hb dX7_live_10 (by decide) (fun _ => ?_) (fun c => absurd (show (nI 0) = 0 by decide +kernel) c)
    refine lv_aload_n hx hb dX7_live_17 rfl (lv_at hl 1 rfl) ?_
    refine g_get hC V (ci := 7) uwX7 0 rfl rfl 0 (by decide) w_249 rfl rfl dX7_live_18 ?_
    refine lv_iload_n hx hb dX7_live_21 rfl (lv_at hl 2 rfl) ?_
    refine lv_iconst (v := (nI 0)) hx hb dX7_live_22 (by decide +kernel) ?_
    refine lv_iconst (v := (-1)) hx hb dX7_live_23 (by decide +kernel) ?_
    refine lv_iconst (v := (nI 0)) hx hb dX7_live_24 (by decide +kernel) ?_
    refine g_callVU (nA := 4) hC V hl.1 (s_allCustom_f l D T fa (-1) n0 j_1 (nI 0) nn nm nl no nu n1 n2 n3 n4 n5 n6 n7 n8 n9 n10 nf1 nf2 nf3 nf4 nf5 nf6 nf7 nf8 nf9 nf10 h_n h_t (fun i hi => (h_sr.2.2.2.2 i hi).1) (fun i hi => (h_sr.2.2.2.2 i hi).2.1) (fun i hi => (h_sr.2.2.2.2 i hi).2.2.1) (fun i hi => (h_sr.2.2.2.2 i hi).2.2.2.1) (fun i hi => (h_sr.2.2.2.2 i hi).2.2.2.2.1) (fun i hi => (h_sr.2.2.2.2 i hi).2.2.2.2.2.1) (fun i hi => (h_sr.2.2.2.2 i hi).2.2.2.2.2.2.1) (fun i hi => (h_sr.2.2.2.2 i hi).2.2.2.2.2.2.2) h_sr.2.2.1.symm h_a (il_0 h_n) h_sr.2.1.symm (by omega)) w_540 w_541 w_542 w_3 w_543 (by decide +kernel) rfl ⟨(Nat.le_of_ble_eq_true rfl), (Nat.le_of_ble_eq_true rfl)⟩ 1 (ci := 5) rfl rfl [1, 2, 3, 4, 5, 6, 7, 8, 9, 10, 11] rfl rfl (Nat.le_of_ble_eq_true rfl) dX7_live_25 ⟨(Nat.le_of_ble_eq_true rfl), (Nat.le_of_ble_eq_true rfl)⟩ rfl (fun r w1 H locs hQ V => ?_)
    obtain ⟨z_9, u_10, mm_11, g3_12, g7_13, g8_14, g10_15, rfl, rfl, f_16, f_17, f_18, f_19⟩ := hQ
    have V : gW D T A s [(o, .inr (7, [.ref n0, .ref s0, .ref im, .ref iz, .ref rw, .ref t0, .ref u0, .ref h0, .ref y0, sv])), (n0, .inr (5, [.int (nI nn), .int mm_11, .int nl, .int no, .int u_10, .ref n1, .ref n2, .ref n3, .ref n4, .ref n5, .ref n6, .ref n7, .ref n8, .ref n9, .ref n10])), (n1, .inl (T 0, 10, .inl nf1)), (n2, .inl (T 0, 10, .inl nf2)), (n3, .inl (T 0, 10, .inl g3_12)), (n4, .inl (T 0, 10, .inl nf4)), (n5, .inl (T 0, 10, .inl nf5)), (n6, .inl (T 0, 10, .inl nf6)), (n7, .inl (T 0, 10, .inl g7_13)), (n8, .inl (T 0, 10, .inl g8_14)), (n9, .inl (T 0, 10, .inl nf9)), (n10, .inl (T 0, 10, .inl g10_15))] H locs := V _ [1, 0, 0, 0, 0, 0, 0, 0, 0, 0, 0] rfl rfl rfl (by decide +kernel) rfl
    show W p l e _ s m args below meth c H locs _ _ _ (F0 m 28 ls [.int z_9])
    exact g_iret (Qr := (q_x_live_f T fa o n n0 s0 im iz rw t0 u0 h0 y0 sv nn nm nl no nu n1 n2 n3 n4 n5 n6 n7 n8 n9 n10 nf1 nf2 nf3 nf4 nf5 nf6 nf7 nf8 nf9 nf10)) hC V ⟨(Nat.le_of_ble_eq_true rfl), (Nat.le_of_ble_eq_true rfl)⟩ ⟨z_9, mm_11, u_10, g3_12, g7_13, g8_14, g10_15, rfl, rfl, (f_16.trans (liv_y (n := nn) (f := fa) (by rw [h_sr.2.1]; exact f_5) f_4 (by omega)).1), (by rw [← (liv_y (n := nn) (f := fa) (by rw [h_sr.2.1]; exact f_5) f_4 (by omega)).2]; exact SR_cu h_n h_sr f_17 f_18 f_19)⟩ dX7_live_28
  · have V : gW D T A s [(o, .inr (7, [.ref n0, .ref s0, .ref im, .ref iz, .ref rw, .ref t0, .ref u0, .ref h0, .ref y0, sv])), (n0, .inr (5, [.int (nI nn), .int nm, .int nl, .int no, .int nu, .ref n1, .ref n2, .ref n3, .ref n4, .ref n5, .ref n6, .ref n7, .ref n8, .ref n9, .ref n10])), (n1, .inl (T 0, 10, .inl nf1)), (n2, .inl (T 0, 10, .inl nf2)), (n3, .inl (T 0, 10, .inl nf3)), (n4, .inl (T 0, 10, .inl nf4)), (n5, .inl (T 0, 10, .inl nf5)), (n6, .inl (T 0, 10, .inl nf6)), (n7, .inl (T 0, 10, .inl nf7)), (n8, .inl (T 0, 10, .inl nf8)), (n9, .inl (T 0, 10, .inl nf9)), (n10, .inl (T 0, 10, .inl nf10))] H locs := V _ [0, 0] rfl rfl rfl (by decide +kernel) rfl
    show W p l e _ s m args below meth c H locs _ _ _ (F0 m 8 ls [.int z_6])
    refine lv_istore_n (lv' := [(2, .int z_6), (0, .ref o), (1, .int n)]) hx hb dX7_live_8 rfl hl (by decide) rfl (fun ls hl => ?_)
    refine lv_iload_n hx hb dX7_live_9 rfl (lv_at hl 0 rfl) ?_
    refine lv_if_eq (tgt := 17) hx hb dX7_live_10 (by decide) (fun c_20 => ?_) (fun c_20 => ?_)
    · skip
      exact (absurd c_20 (by assumption) : False).elim
    · skip
      refine lv_iload_n hx hb dX7_live_13 rfl (lv_at hl 0 rfl) ?_
      refine lv_goto (tgt := 28) hx hb dX7_live_14 (by decide) ?_
      exact g_iret (Qr := (q_x_live_f T fa o n n0 s0 im iz rw t0 u0 h0 y0 sv nn nm nl no nu n1 n2 n3 n4 n5 n6 n7 n8 n9 n10 nf1 nf2 nf3 nf4 nf5 nf6 nf7 nf8 nf9 nf10)) hC V ⟨(Nat.le_of_ble_eq_true rfl), (Nat.le_of_ble_eq_true rfl)⟩ ⟨z_6, nm, nu, nf3, nf7, nf8, nf10, rfl, rfl, (liv_n (n := nn) (f := fa) (by rw [h_sr.2.1]; exact f_8) f_7).1, (by rw [← (liv_n (n := nn) (f := fa) (by rw [h_sr.2.1]; exact f_8) f_7).2]; exact h_sr)⟩ dX7_live_28

def q_m_live_f (T : Nat → ClassId) (n : Nat) (o : Nat) (n_ : Int32) (w0 : Int32) (g1 : Nat) (g2 : Nat) (g3 : Nat) (g4 : Nat) (tp : Nat) (w6 : Int32) (w7 : Int32) (w8 : Int32) (w9 : Int32) (w10 : Int32) (w11 : Int32) (w12 : Int32) (w13 : Int32) (w14 : Int32) (g15 : Nat) (w16 : Int32) (g17 : Nat) (w18 : Int32) (w19 : Int32) (g20 : Nat) (w21 : Int32) (g22 : Nat) (g23 : Nat) (g24 : Nat) (w25 : Int32) (w26 : Int32) (w27 : Int32) (g28 : Nat) (g29 : Nat) (w30 : Int32) (g31 : Nat) (g32 : Nat) (g33 : Nat) (fa : Nat → Int32) (fh : Nat → Int32) : Option Value → va_W → Prop := fun rr ww => (∃ (z : Int32) (bm : Int32) (ga : Nat → Int32) (gh : Nat → Int32), rr = some (.int z) ∧ ww = [(o, .inr (8, [.int (nI 0), .ref g1, .ref g2, .ref g3, .ref g4, .int (nI tp), .int w6, .int w7, .int w8, .int w9, .int w10, .int w11, .int w12, .int w13, .int w14, .ref g15, .int bm, .ref g17, .int w18, .int w19, .ref g20, .int w21, .ref g22, .ref g23, .ref g24, .int w25, .int w26, .int w27, .ref g28, .ref g29, .int w30, .ref g31, .ref g32, .ref g33])), (g1, .inl (T 0, 282, .inl ga)), (g15, .inl (T 0, 10, .inl gh))] ∧ MS n fa ga ∧ z = livA n fa n_ ∧ ga = livF n fa n_)
set_option maxHeartbeats 4000000 in
set_option maxRecDepth 100000 in
theorem m_live_f (l : Launch) (D : va_G) (T : Nat → ClassId) (n : Nat) (o : Nat) (n_ : Int32) (w0 : Int32) (g1 : Nat) (g2 : Nat) (g3 : Nat) (g4 : Nat) (tp : Nat) (w6 : Int32) (w7 : Int32) (w8 : Int32) (w9 : Int32) (w10 : Int32) (w11 : Int32) (w12 : Int32) (w13 : Int32) (w14 : Int32) (g15 : Nat) (w16 : Int32) (g17 : Nat) (w18 : Int32) (w19 : Int32) (g20 : Nat) (w21 : Int32) (g22 : Nat) (g23 : Nat) (g24 : Nat) (w25 : Int32) (w26 : Int32) (w27 : Int32) (g28 : Nat) (g29 : Nat) (w30 : Int32) (g31 : Nat) (g32 : Nat) (g33 : Nat) (fa : Nat → Int32) (fh : Nat → Int32) (h_a : MI n fa) : Ct l yX8_live cX8_live 3 (some .int) 4 0 0 D T [.ref o, .int n_] [(o, .inr (8, [.int w0, .ref g1, .ref g2, .ref g3, .ref g4, .int (nI tp), .int w6, .int w7, .int w8, .int w9, .int w10, .int w11, .int w12, .int w13, .int w14, .ref g15, .int w16, .ref g17, .int w18, .int w19, .ref g20, .int w21, .ref g22, .ref g23, .ref g24, .int w25, .int w26, .int w27, .ref g28, .ref g29, .int w30, .ref g31, .ref g32, .ref g33])), (g1, .inl (T 0, 282, .inl fa)), (g15, .inl (T 0, 10, .inl fh))] (q_m_live_f T n o n_ w0 g1 g2 g3 g4 tp w6 w7 w8 w9 w10 w11 w12 w13 w14 g15 w16 g17 w18 w19 g20 w21 g22 g23 g24 w25 w26 w27 g28 g29 w30 g31 g32 g33 fa fh) := by
  refine Ct.of (cc := cX8_live) (maxL := 3) (ret := (some .int)) (by decide) (Nat.le_of_ble_eq_true rfl) ?_
  intro p e s m args below meth c A ls hC hnm V hl
  obtain ⟨hx, hb, hr, hml, hown, hts, hlocks⟩ := id hC
  generalize hH : s.heap = H at V ⊢
  clear hH
  have hl : lv_has ls 3 [(0, .ref o), (1, .int n_)] := hl
  generalize hlo : ([] : List Loc) = locs at V ⊢
  clear hlo
  have ms0 := ms_rf h_a
  have hn10 := h_a.1
  refine lv_aload_n hx hb dX8_live_0 rfl (lv_at hl 0 rfl) ?_
  refine lv_iconst (v := (nI 0)) hx hb dX8_live_1 (by decide +kernel) ?_
  refine g_put hC V (ci := 8) uwX8 tyX8 tyX8_ok nmX8 0 rfl rfl 0 (by decide) w_912 rfl rfl rfl rfl (Nat.le_of_ble_eq_true rfl) (ws' := [(o, .inr (8, [.int (nI 0), .ref g1, .ref g2, .ref g3, .ref g4, .int (nI tp), .int w6, .int w7, .int w8, .int w9, .int w10, .int w11, .int w12, .int w13, .int w14, .ref g15, .int w16, .ref g17, .int w18, .int w19, .ref g20, .int w21, .ref g22, .ref g23, .ref g24, .int w25, .int w26, .int w27, .ref g28, .ref g29, .int w30, .ref g31, .ref g32, .ref g33])), (g1, .inl (T 0, 282, .inl fa)), (g15, .inl (T 0, 10, .inl fh))]) rfl dX8_live_2 (fun H locs V => ?_)
  refine lv_aload_n hx hb dX8_live_5 rfl (lv_at hl 0 rfl) ?_
  refine lv_iload_n hx hb dX8_live_6 rfl (lv_at hl 1 rfl) ?_
  refine g_callVU (nA := 1) hC V hl.1 (m_refTime_f l D T o n_ (nI 0) g1 g2 g3 g4 tp w6 w7 w8 w9 w10 w11 w12 w13 w14 g15 w16 g17 w18 w19 g20 w21 g22 g23 g24 w25 w26 w27 g28 g29 w30 g31 g32 g33 fa) w_1174 w_1176 w_s58 w_9 w_1177 (by decide +kernel) rfl ⟨(Nat.le_of_ble_eq_true rfl), (Nat.le_of_ble_eq_true rfl)⟩ 0 (ci := 8) rfl rfl [0, 1] rfl rfl (Nat.le_of_ble_eq_true rfl) dX8_live_7 ⟨(Nat.le_of_ble_eq_true rfl), (Nat.le_of_ble_eq_true rfl)⟩ rfl (fun r w1 H locs hQ V => ?_)
  rcases hQ with ⟨j_1, rfl, rfl, f_2, f_3, f_4, f_5⟩ | ⟨z_6, rfl, rfl, f_7, f_8⟩
  · have V : gW D T A s [(o, .inr (8, [.int (nI 0), .ref g1, .ref g2, .ref g3, .ref g4, .int (nI tp), .int w6, .int w7, .int w8, .int w9, .int w10, .int w11, .int w12, .int w13, .int w14, .ref g15, .int w16, .ref g17, .int w18, .int w19, .ref g20, .int w21, .ref g22, .ref g23, .ref g24, .int w25, .int w26, .int w27, .ref g28, .ref g29, .int w30, .ref g31, .ref g32, .ref g33])), (g1, .inl (T 0, 282, .inl fa)), (g15, .inl (T 0, 10, .inl fh))] H locs := V _ [0, 0] rfl rfl rfl (by decide +kernel) rfl
    show W p l e _ s m args below meth c H locs _ _ _ (F0 m 10 ls [.int (nI 0)])
    rw [f_4] at hl
    refine lv_istore_n (lv' := [(2, .int (nI 0)), (0, .ref o), (1, .int (nI j_1))]) hx hb dX8_live_10 rfl hl (by decide) rfl (fun ls hl => ?_)
    refine lv_iload_n hx hb dX8_live_11 rfl (lv_at hl 0 rfl) ?_
    refine lv_if_eq (tgt := 19) hx hb dX8_live_12 (by decide) (fun _ => ?_) (fun c => absurd (show (nI 0) = 0 by decide +kernel) c)
    refine lv_aload_n hx hb dX8_live_19 rfl (lv_at hl 1 rfl) ?_
    refine lv_iload_n hx hb dX8_live_20 rfl (lv_at hl 2 rfl) ?_
    refine lv_iconst (v := (-1)) hx hb dX8_live_21 (by decide +kernel) ?_
    refine lv_iconst (v := (-1)) hx hb dX8_live_22 (by decide +kernel) ?_
    refine lv_iconst (v := (nI 0)) hx hb dX8_live_23 (by decide +kernel) ?_
    refine g_callV (wr := []) (nA := 4) hC V hl.1 (m_lives_f l D T n o j_1 (-1) (nI 0) g1 g2 g3 g4 tp w6 w7 w8 w9 w10 w11 w12 w13 w14 g15 w16 g17 w18 w19 g20 w21 g22 g23 g24 w25 w26 w27 g28 g29 w30 g31 g32 g33 fa fh h_a (by first | assumption | omega)) w_1183 w_1185 w_s60 w_9 w_1186 (by decide +kernel) rfl ⟨(Nat.le_of_ble_eq_true rfl), (Nat.le_of_ble_eq_true rfl)⟩ 0 (ci := 8) rfl rfl [0, 1, 2] [] rfl rfl rfl rfl (by decide) (Nat.le_of_ble_eq_true rfl) dX8_live_24 ⟨(Nat.le_of_ble_eq_true rfl), (Nat.le_of_ble_eq_true rfl)⟩ rfl (fun r w1 H locs hQ V => ?_)
    obtain ⟨z_9, bm_10, ga_11, gh_12, rfl, rfl, f_13, f_14, f_15⟩ := hQ
    have V : gW D T A s [(o, .inr (8, [.int (nI 0), .ref g1, .ref g2, .ref g3, .ref g4, .int (nI tp), .int w6, .int w7, .int w8, .int w9, .int w10, .int w11, .int w12, .int w13, .int w14, .ref g15, .int bm_10, .ref g17, .int w18, .int w19, .ref g20, .int w21, .ref g22, .ref g23, .ref g24, .int w25, .int w26, .int w27, .ref g28, .ref g29, .int w30, .ref g31, .ref g32, .ref g33])), (g1, .inl (T 0, 282, .inl ga_11)), (g15, .inl (T 0, 10, .inl gh_12))] H locs := V
    show W p l e _ s m args below meth c H locs _ _ _ (F0 m 27 ls [.int z_9])
    have hga_11 : MS n fa ga_11 := ms_tr (by assumption) f_13
    exact g_iret (Qr := (q_m_live_f T n o n_ w0 g1 g2 g3 g4 tp w6 w7 w8 w9 w10 w11 w12 w13 w14 g15 w16 g17 w18 w19 g20 w21 g22 g23 g24 w25 w26 w27 g28 g29 w30 g31 g32 g33 fa fh)) hC V ⟨(Nat.le_of_ble_eq_true rfl), (Nat.le_of_ble_eq_true rfl)⟩ ⟨z_9, bm_10, ga_11, gh_12, rfl, rfl, f_13, (f_14.trans (liv_y (n := n) (f := fa) f_5 f_4 (by omega)).1), (f_15.trans (liv_y (n := n) (f := fa) f_5 f_4 (by omega)).2)⟩ dX8_live_27
  · have V : gW D T A s [(o, .inr (8, [.int (nI 0), .ref g1, .ref g2, .ref g3, .ref g4, .int (nI tp), .int w6, .int w7, .int w8, .int w9, .int w10, .int w11, .int w12, .int w13, .int w14, .ref g15, .int w16, .ref g17, .int w18, .int w19, .ref g20, .int w21, .ref g22, .ref g23, .ref g24, .int w25, .int w26, .int w27, .ref g28, .ref g29, .int w30, .ref g31, .ref g32, .ref g33])), (g1, .inl (T 0, 282, .inl fa)), (g15, .inl (T 0, 10, .inl fh))] H locs := V _ [0, 0] rfl rfl rfl (by decide +kernel) rfl
    show W p l e _ s m args below meth c H locs _ _ _ (F0 m 10 ls [.int z_6])
    refine lv_istore_n (lv' := [(2, .int z_6), (0, .ref o), (1, .int n_)]) hx hb dX8_live_10 rfl hl (by decide) rfl (fun ls hl => ?_)
    refine lv_iload_n hx hb dX8_live_11 rfl (lv_at hl 0 rfl) ?_
    refine lv_if_eq (tgt := 19) hx hb dX8_live_12 (by decide) (fun c_16 => ?_) (fun c_16 => ?_)
    · skip
      exact (absurd c_16 (by assumption) : False).elim
    · skip
      refine lv_iload_n hx hb dX8_live_15 rfl (lv_at hl 0 rfl) ?_
      refine lv_goto (tgt := 27) hx hb dX8_live_16 (by decide) ?_
      exact g_iret (Qr := (q_m_live_f T n o n_ w0 g1 g2 g3 g4 tp w6 w7 w8 w9 w10 w11 w12 w13 w14 g15 w16 g17 w18 w19 g20 w21 g22 g23 g24 w25 w26 w27 g28 g29 w30 g31 g32 g33 fa fh)) hC V ⟨(Nat.le_of_ble_eq_true rfl), (Nat.le_of_ble_eq_true rfl)⟩ ⟨z_6, w16, fa, fh, rfl, rfl, ms0, (liv_n (n := n) (f := fa) f_8 f_7).1, (liv_n (n := n) (f := fa) f_8 f_7).2⟩ dX8_live_27

/-! a DAY -/
def dyx (x : Int32) : Nat → Int32
  | 0 => x
  | k + 1 => nI 1103515245 * dyx x k + nI 12345
def dv (x : Int32) : Int32 := (x.toUInt32 >>> ((nI 16).toUInt32 &&& Int32.toUInt32 31)).toInt32 - (x.toUInt32 >>> ((nI 16).toUInt32 &&& Int32.toUInt32 31)).toInt32 / nI 3 * nI 3
def dyP (x : Int32) : Nat → Int32
  | 0 => nI 0
  | k + 1 => dyP x k ||| (if dv (dyx x (k + 1)) = nI 1 then nI 1 <<< (nI k &&& 31) else nI 0)
def dyS (x : Int32) : Nat → Int32
  | 0 => nI 0
  | k + 1 => dyS x k ||| (if dv (dyx x (k + 1)) = nI 2 then nI 1 <<< (nI k &&& 31) else nI 0)
def dyX (n : Nat) (x : Int32) : Nat → Int32
  | 0 => x
  | m + 1 => dyx (dyX n x m) n
def dyI (n : Nat) (f : Nat → Int32) (x : Int32) : Nat → Nat → Int32
  | 0 => f
  | m + 1 => goF n (dyI n f x m) (dyP (dyX n x m) n) (dyS (dyX n x m) n) (-1) (nI 0)
def dyC (n : Nat) (f : Nat → Int32) (x : Int32) : Nat → Int32
  | 0 => nI 0
  | m + 1 => dyC n f x m + goC (dyI n f x m) (dyS (dyX n x m) n) n
theorem dP_y {x : Int32} {k : Nat} (h : dv (dyx x (k + 1)) = nI 1) : dyP x k ||| (nI 1 <<< (nI k &&& 31)) = dyP x (k + 1) := by show _ = dyP x k ||| _; rw [if_pos h]
theorem dP_n {x : Int32} {k : Nat} (h : ¬ dv (dyx x (k + 1)) = nI 1) : dyP x k ||| nI 0 = dyP x (k + 1) := by show _ = dyP x k ||| _; rw [if_neg h]
theorem dS_y {x : Int32} {k : Nat} (h : dv (dyx x (k + 1)) = nI 2) : dyS x k ||| (nI 1 <<< (nI k &&& 31)) = dyS x (k + 1) := by show _ = dyS x k ||| _; rw [if_pos h]
theorem dS_n {x : Int32} {k : Nat} (h : ¬ dv (dyx x (k + 1)) = nI 2) : dyS x k ||| nI 0 = dyS x (k + 1) := by show _ = dyS x k ||| _; rw [if_neg h]
theorem dyI_mi {n : Nat} {f : Nat → Int32} {x : Int32} (h : MI n f) : ∀ k, MI n (dyI n f x k)
  | 0 => h
  | k + 1 => MI_go (dyI_mi h k)
def dayA (n : Nat) (f : Nat → Int32) (x v : Int32) : Int32 := if tmA 60 (f 1) v = nI 0 then dyC n f x v.toNatClampNeg else tmA 60 (f 1) v
def dayF (n : Nat) (f : Nat → Int32) (x v : Int32) : Nat → Int32 := if tmA 60 (f 1) v = nI 0 then dyI n f x v.toNatClampNeg else f
theorem day_n {n : Nat} {f : Nat → Int32} {x v z : Int32} (h : z = tmA 60 (f 1) v) (hz : ¬ z = 0) : z = dayA n f x v ∧ f = dayF n f x v := by
  have q : ¬ tmA 60 (f 1) v = nI 0 := fun e => hz (h.trans e)
  unfold dayA dayF; rw [if_neg q, if_neg q]; exact ⟨h, rfl⟩
theorem day_y {n j : Nat} {f : Nat → Int32} {x v : Int32} (h : nI 0 = tmA 60 (f 1) v) (e : v = nI j) (hj : j < 1000) : dyC n f x j = dayA n f x v ∧ dyI n f x j = dayF n f x v := by
  unfold dayA dayF; rw [if_pos h.symm, if_pos h.symm, e, nI_clamp (by omega)]; exact ⟨rfl, rfl⟩

def q_m_day_f (T : Nat → ClassId) (n : Nat) (o : Nat) (seed : Int32) (n_ : Int32) (w0 : Int32) (g1 : Nat) (g2 : Nat) (g3 : Nat) (g4 : Nat) (tp : Nat) (w6 : Int32) (w7 : Int32) (w8 : Int32) (w9 : Int32) (w10 : Int32) (w11 : Int32) (w12 : Int32) (w13 : Int32) (w14 : Int32) (g15 : Nat) (w16 : Int32) (g17 : Nat) (w18 : Int32) (w19 : Int32) (g20 : Nat) (w21 : Int32) (g22 : Nat) (g23 : Nat) (g24 : Nat) (w25 : Int32) (w26 : Int32) (w27 : Int32) (g28 : Nat) (g29 : Nat) (w30 : Int32) (g31 : Nat) (g32 : Nat) (g33 : Nat) (fa : Nat → Int32) (fh : Nat → Int32) : Option Value → va_W → Prop := fun rr ww => (∃ (z : Int32) (bm : Int32) (ga : Nat → Int32) (gh : Nat → Int32), rr = some (.int z) ∧ ww = [(o, .inr (8, [.int (nI 0), .ref g1, .ref g2, .ref g3, .ref g4, .int (nI tp), .int w6, .int w7, .int w8, .int w9, .int w10, .int w11, .int w12, .int w13, .int w14, .ref g15, .int bm, .ref g17, .int w18, .int w19, .ref g20, .int w21, .ref g22, .ref g23, .ref g24, .int w25, .int w26, .int w27, .ref g28, .ref g29, .int w30, .ref g31, .ref g32, .ref g33])), (g1, .inl (T 0, 282, .inl ga)), (g15, .inl (T 0, 10, .inl gh))] ∧ MS n fa ga ∧ z = dayA n fa seed n_ ∧ ga = dayF n fa seed n_)
set_option maxHeartbeats 4000000 in
set_option maxRecDepth 100000 in
theorem m_day_f (l : Launch) (D : va_G) (T : Nat → ClassId) (n : Nat) (o : Nat) (seed : Int32) (n_ : Int32) (w0 : Int32) (g1 : Nat) (g2 : Nat) (g3 : Nat) (g4 : Nat) (tp : Nat) (w6 : Int32) (w7 : Int32) (w8 : Int32) (w9 : Int32) (w10 : Int32) (w11 : Int32) (w12 : Int32) (w13 : Int32) (w14 : Int32) (g15 : Nat) (w16 : Int32) (g17 : Nat) (w18 : Int32) (w19 : Int32) (g20 : Nat) (w21 : Int32) (g22 : Nat) (g23 : Nat) (g24 : Nat) (w25 : Int32) (w26 : Int32) (w27 : Int32) (g28 : Nat) (g29 : Nat) (w30 : Int32) (g31 : Nat) (g32 : Nat) (g33 : Nat) (fa : Nat → Int32) (fh : Nat → Int32) (h_a : MI n fa) : Ct l yX8_day cX8_day 10 (some .int) 3 0 0 D T [.ref o, .int seed, .int n_] [(o, .inr (8, [.int w0, .ref g1, .ref g2, .ref g3, .ref g4, .int (nI tp), .int w6, .int w7, .int w8, .int w9, .int w10, .int w11, .int w12, .int w13, .int w14, .ref g15, .int w16, .ref g17, .int w18, .int w19, .ref g20, .int w21, .ref g22, .ref g23, .ref g24, .int w25, .int w26, .int w27, .ref g28, .ref g29, .int w30, .ref g31, .ref g32, .ref g33])), (g1, .inl (T 0, 282, .inl fa)), (g15, .inl (T 0, 10, .inl fh))] (q_m_day_f T n o seed n_ w0 g1 g2 g3 g4 tp w6 w7 w8 w9 w10 w11 w12 w13 w14 g15 w16 g17 w18 w19 g20 w21 g22 g23 g24 w25 w26 w27 g28 g29 w30 g31 g32 g33 fa fh) := by
  refine Ct.of (cc := cX8_day) (maxL := 10) (ret := (some .int)) (by decide) (Nat.le_of_ble_eq_true rfl) ?_
  intro p e s m args below meth c A ls hC hnm V hl
  obtain ⟨hx, hb, hr, hml, hown, hts, hlocks⟩ := id hC
  generalize hH : s.heap = H at V ⊢
  clear hH
  have hl : lv_has ls 10 [(0, .ref o), (1, .int seed), (2, .int n_)] := hl
  generalize hlo : ([] : List Loc) = locs at V ⊢
  clear hlo
  have ms0 := ms_rf h_a
  have hn10 := h_a.1
  refine lv_aload_n hx hb dX8_day_0 rfl (lv_at hl 0 rfl) ?_
  refine lv_iconst (v := (nI 0)) hx hb dX8_day_1 (by decide +kernel) ?_
  refine g_put hC V (ci := 8) uwX8 tyX8 tyX8_ok nmX8 0 rfl rfl 0 (by decide) w_912 rfl rfl rfl rfl (Nat.le_of_ble_eq_true rfl) (ws' := [(o, .inr (8, [.int (nI 0), .ref g1, .ref g2, .ref g3, .ref g4, .int (nI tp), .int w6, .int w7, .int w8, .int w9, .int w10, .int w11, .int w12, .int w13, .int w14, .ref g15, .int w16, .ref g17, .int w18, .int w19, .ref g20, .int w21, .ref g22, .ref g23, .ref g24, .int w25, .int w26, .int w27, .ref g28, .ref g29, .int w30, .ref g31, .ref g32, .ref g33])), (g1, .inl (T 0, 282, .inl fa)), (g15, .inl (T 0, 10, .inl fh))]) rfl dX8_day_2 (fun H locs V => ?_)
  refine lv_iload_n hx hb dX8_day_5 rfl (lv_at hl 2 rfl) ?_
  refine lv_i2l (v := n_.toInt64) hx hb dX8_day_6 rfl ?_
  refine lv_lconst (v := (nI 1).toInt64) hx hb dX8_day_7 (by decide +kernel) ?_
  refine lv_ldc2 (v := (60)) hx hb hown (hts _ w_1108) dX8_day_8 ?_
  refine g_vl (y := (nI 60).toInt64) (by decide +kernel) ?_
  refine g_callSU (nA := 3) hC V hl.1 (m_within l D T n_ (nI 1) (nI 60)) w_1023 w_1024 w_9 w_1025 (by decide +kernel) rfl ⟨(Nat.le_of_ble_eq_true rfl), (Nat.le_of_ble_eq_true rfl)⟩ [] rfl rfl (Nat.le_of_ble_eq_true rfl) dX8_day_11 ⟨(Nat.le_of_ble_eq_true rfl), (Nat.le_of_ble_eq_true rfl)⟩ rfl (fun r w1 H locs hQ V => ?_)
  rcases hQ with ⟨rfl, rfl, f_1, f_2⟩ | ⟨rfl, rfl, f_3⟩
  · have V : gW D T A s [(o, .inr (8, [.int (nI 0), .ref g1, .ref g2, .ref g3, .ref g4, .int (nI tp), .int w6, .int w7, .int w8, .int w9, .int w10, .int w11, .int w12, .int w13, .int w14, .ref g15, .int w16, .ref g17, .int w18, .int w19, .ref g20, .int w21, .ref g22, .ref g23, .ref g24, .int w25, .int w26, .int w27, .ref g28, .ref g29, .int w30, .ref g31, .ref g32, .ref g33])), (g1, .inl (T 0, 282, .inl fa)), (g15, .inl (T 0, 10, .inl fh))] H locs := V _ [] rfl rfl rfl (by decide +kernel) rfl
    show W p l e _ s m args below meth c H locs _ _ _ (F0 m 14 ls [.int (nI 1)])
    obtain ⟨jd, hjd1, hjd2, ejd⟩ := g_rng (by first | decide | omega) (by first | decide | omega) f_1 f_2
    rw [ejd] at hl
    refine lv_if_ne (tgt := 20) hx hb dX8_day_14 (by decide) (fun _ => ?_) (fun c => absurd (show (nI 1) = 0 from c) (by decide +kernel))
    refine lv_aload_n hx hb dX8_day_20 rfl (lv_at hl 0 rfl) ?_
    refine g_get hC V (ci := 8) uwX8 0 rfl rfl 1 (by decide) w_913 rfl rfl dX8_day_21 ?_
    refine lv_iconst (v := (nI 1)) hx hb dX8_day_24 (by decide +kernel) ?_
    refine g_iald hC V 1 rfl (vp_in_nI (by decide) (by decide)) (v := (fa 1)) (congrArg _ (nI_clamp (by decide))) dX8_day_25 ?_
    refine lv_iload_n hx hb dX8_day_26 rfl (lv_at hl 2 rfl) ?_
    refine lv_iadd hx hb dX8_day_27 ?_
    refine lv_sipush (v := (nI 9999)) hx hb dX8_day_28 (by decide +kernel) ?_
    refine lv_icmp_le (tgt := 37) hx hb dX8_day_31 (by decide) (fun c_4 => ?_) (fun c_4 => ?_)
    · skip
      have hy0 : nI 0 = tmA 60 (fa 1) n_ := tm_0 f_1 f_2 (by rw [ejd]; exact Int32.not_lt.mpr c_4)
      refine lv_iload_n hx hb dX8_day_37 rfl (lv_at hl 1 rfl) ?_
      refine lv_istore_n (lv' := [(3, .int seed), (0, .ref o), (1, .int seed), (2, .int (nI jd))]) hx hb dX8_day_38 rfl hl (by decide) rfl (fun ls hl => ?_)
      refine lv_iconst (v := (nI 0)) hx hb dX8_day_39 (by decide +kernel) ?_
      refine lv_istore (lv' := [(4, .int (nI 0)), (3, .int seed), (0, .ref o), (1, .int seed), (2, .int (nI jd))]) hx hb dX8_day_40 hl (by decide) rfl (fun ls hl => ?_)
      refine lv_iconst (v := (nI 0)) hx hb dX8_day_42 (by decide +kernel) ?_
      refine lv_istore (lv' := [(5, .int (nI 0)), (4, .int (nI 0)), (3, .int seed), (0, .ref o), (1, .int seed), (2, .int (nI jd))]) hx hb dX8_day_43 hl (by decide) rfl (fun ls hl => ?_)
      have L_5 : ∀ (fu : Nat) (k45 : Nat) (yv : Int32) (x5 : Int32) (bv : Int32) (th : Nat → Int32) (f45 : Nat → Int32), k45 ≤ jd → MS n fa f45 → yv = dyX n seed k45 → f45 = dyI n fa seed k45 → x5 = dyC n fa seed k45 → jd - k45 < fu → ∀ (H : Heap) (locs : List Loc) (ls : Array Slot), gW D T A s [(o, .inr (8, [.int (nI 0), .ref g1, .ref g2, .ref g3, .ref g4, .int (nI tp), .int w6, .int w7, .int w8, .int w9, .int w10, .int w11, .int w12, .int w13, .int w14, .ref g15, .int bv, .ref g17, .int w18, .int w19, .ref g20, .int w21, .ref g22, .ref g23, .ref g24, .int w25, .int w26, .int w27, .ref g28, .ref g29, .int w30, .ref g31, .ref g32, .ref g33])), (g1, .inl (T 0, 282, .inl f45)), (g15, .inl (T 0, 10, .inl th))] H locs → lv_has ls 10 [(5, .int (nI k45)), (4, .int x5), (3, .int yv), (0, .ref o), (1, .int seed), (2, .int (nI jd))] → W p l e (rmD 3 0 0) s m args below meth c H locs 0 0 (MQ below (gQ D A (q_m_day_f T n o seed n_ w0 g1 g2 g3 g4 tp w6 w7 w8 w9 w10 w11 w12 w13 w14 g15 w16 g17 w18 w19 g20 w21 g22 g23 g24 w25 w26 w27 g28 g29 w30 g31 g32 g33 fa fh)) args s 0 0 A) (F0 m 45 ls []) := by
        intro fu_45
        induction fu_45 with
        | zero => intro k45 yv x5 bv th f45 hk45 hf45 hyv hI hx5 hmu; exact absurd hmu (Nat.not_lt_zero _)
        | succ fu_45 ih_45 =>
          intro k45 yv x5 bv th f45 hk45 hf45 hyv hI hx5 hmu_45 H locs ls V hl
          refine lv_iload hx hb dX8_day_45 (lv_at hl 0 rfl) ?_
          refine lv_iload_n hx hb dX8_day_47 rfl (lv_at hl 5 rfl) ?_
          refine lv_icmp_ge (tgt := 153) hx hb dX8_day_48 (by decide) (fun c_6 => ?_) (fun c_6 => ?_)
          · skip
            have c_6 := b_le (by omega) (by omega) c_6
            refine lv_iload hx hb dX8_day_153 (lv_at hl 1 rfl) ?_
            exact g_iret (Qr := (q_m_day_f T n o seed n_ w0 g1 g2 g3 g4 tp w6 w7 w8 w9 w10 w11 w12 w13 w14 g15 w16 g17 w18 w19 g20 w21 g22 g23 g24 w25 w26 w27 g28 g29 w30 g31 g32 g33 fa fh)) hC V ⟨(Nat.le_of_ble_eq_true rfl), (Nat.le_of_ble_eq_true rfl)⟩ ⟨x5, bv, f45, th, rfl, rfl, (by assumption), (by rw [← (day_y (n := n) (f := fa) (x := seed) hy0 ejd (by omega)).1, hx5]; congr 1; omega), (by rw [← (day_y (n := n) (f := fa) (x := seed) hy0 ejd (by omega)).2, hI]; congr 1; omega)⟩ dX8_day_155
          · skip
            have c_6 := b_nle (by omega) (by omega) c_6
            refine lv_iconst (v := (nI 0)) hx hb dX8_day_51 (by decide +kernel) ?_
            refine lv_istore (lv' := [(6, .int (nI 0)), (5, .int (nI k45)), (4, .int x5), (3, .int yv), (0, .ref o), (1, .int seed), (2, .int (nI jd))]) hx hb dX8_day_52 hl (by decide) rfl (fun ls hl => ?_)
            refine lv_iconst (v := (nI 0)) hx hb dX8_day_54 (by decide +kernel) ?_
            refine lv_istore (lv' := [(7, .int (nI 0)), (6, .int (nI 0)), (5, .int (nI k45)), (4, .int x5), (3, .int yv), (0, .ref o), (1, .int seed), (2, .int (nI jd))]) hx hb dX8_day_55 hl (by decide) rfl (fun ls hl => ?_)
            refine lv_iconst (v := (nI 0)) hx hb dX8_day_57 (by decide +kernel) ?_
            refine lv_istore (lv' := [(8, .int (nI 0)), (7, .int (nI 0)), (6, .int (nI 0)), (5, .int (nI k45)), (4, .int x5), (3, .int yv), (0, .ref o), (1, .int seed), (2, .int (nI jd))]) hx hb dX8_day_58 hl (by decide) rfl (fun ls hl => ?_)
            have L_7 : ∀ (fu : Nat) (k60 : Nat) (xv : Int32) (pv : Int32) (sv : Int32), k60 ≤ n → xv = dyx yv k60 → pv = dyP yv k60 → sv = dyS yv k60 → n - k60 < fu → ∀ (H : Heap) (locs : List Loc) (ls : Array Slot), gW D T A s [(o, .inr (8, [.int (nI 0), .ref g1, .ref g2, .ref g3, .ref g4, .int (nI tp), .int w6, .int w7, .int w8, .int w9, .int w10, .int w11, .int w12, .int w13, .int w14, .ref g15, .int bv, .ref g17, .int w18, .int w19, .ref g20, .int w21, .ref g22, .ref g23, .ref g24, .int w25, .int w26, .int w27, .ref g28, .ref g29, .int w30, .ref g31, .ref g32, .ref g33])), (g1, .inl (T 0, 282, .inl f45)), (g15, .inl (T 0, 10, .inl th))] H locs → lv_has ls 10 [(8, .int (nI k60)), (7, .int sv), (6, .int pv), (5, .int (nI k45)), (4, .int x5), (3, .int xv), (0, .ref o), (1, .int seed), (2, .int (nI jd))] → W p l e (rmD 3 0 0) s m args below meth c H locs 0 0 (MQ below (gQ D A (q_m_day_f T n o seed n_ w0 g1 g2 g3 g4 tp w6 w7 w8 w9 w10 w11 w12 w13 w14 g15 w16 g17 w18 w19 g20 w21 g22 g23 g24 w25 w26 w27 g28 g29 w30 g31 g32 g33 fa fh)) args s 0 0 A) (F0 m 60 ls []) := by
              intro fu_60
              induction fu_60 with
              | zero => intro k60 xv pv sv hk60 hxv hpv hsv hmu; exact absurd hmu (Nat.not_lt_zero _)
              | succ fu_60 ih_60 =>
                intro k60 xv pv sv hk60 hxv hpv hsv hmu_60 H locs ls V hl
                refine lv_iload hx hb dX8_day_60 (lv_at hl 0 rfl) ?_
                refine lv_aload_n hx hb dX8_day_62 rfl (lv_at hl 6 rfl) ?_
                refine g_get hC V (ci := 8) uwX8 0 rfl rfl 1 (by decide) w_913 rfl rfl dX8_day_63 ?_
                refine lv_iconst (v := (nI 0)) hx hb dX8_day_66 (by decide +kernel) ?_
                refine g_iald hC V 1 rfl (vp_in_nI (by decide) (by decide)) (v := (nI n)) (by rw [nI_clamp (by decide)]; first | rfl | exact h_a.2.1 | exact hf45.1.2.1) dX8_day_67 ?_
                refine lv_icmp_ge (tgt := 132) hx hb dX8_day_68 (by decide) (fun c_8 => ?_) (fun c_8 => ?_)
                · skip
                  have c_8 := b_le (by omega) (by omega) c_8
                  have hxn : xv = dyx yv n := by rw [hxv]; congr 1; omega
                  have hsn : sv = dyS yv n := by rw [hsv]; congr 1; omega
                  have hpn : pv = dyP yv n := by rw [hpv]; congr 1; omega
                  refine lv_iload hx hb dX8_day_132 (lv_at hl 4 rfl) ?_
                  refine lv_aload_n hx hb dX8_day_134 rfl (lv_at hl 6 rfl) ?_
                  refine lv_iload hx hb dX8_day_135 (lv_at hl 2 rfl) ?_
                  refine lv_iload hx hb dX8_day_137 (lv_at hl 1 rfl) ?_
                  refine lv_iconst (v := (-1)) hx hb dX8_day_139 (by decide +kernel) ?_
                  refine lv_iconst (v := (nI 0)) hx hb dX8_day_140 (by decide +kernel) ?_
                  refine g_callV (wr := []) (nA := 4) hC V hl.1 (m_goes_f l D T n o pv sv (-1) (nI 0) (nI 0) g1 g2 g3 g4 tp w6 w7 w8 w9 w10 w11 w12 w13 w14 g15 bv g17 w18 w19 g20 w21 g22 g23 g24 w25 w26 w27 g28 g29 w30 g31 g32 g33 f45 th hf45.1) w_1122 w_1124 w_s50 w_9 w_1125 (by decide +kernel) rfl ⟨(Nat.le_of_ble_eq_true rfl), (Nat.le_of_ble_eq_true rfl)⟩ 0 (ci := 8) rfl rfl [0, 1, 2] [] rfl rfl rfl rfl (by decide) (Nat.le_of_ble_eq_true rfl) dX8_day_141 ⟨(Nat.le_of_ble_eq_true rfl), (Nat.le_of_ble_eq_true rfl)⟩ rfl (fun r w1 H locs hQ V => ?_)
                  obtain ⟨z_9, bm_10, ga_11, gh_12, rfl, rfl, f_13, f_14, f_15, f_16⟩ := hQ
                  have V : gW D T A s [(o, .inr (8, [.int (nI 0), .ref g1, .ref g2, .ref g3, .ref g4, .int (nI tp), .int w6, .int w7, .int w8, .int w9, .int w10, .int w11, .int w12, .int w13, .int w14, .ref g15, .int bm_10, .ref g17, .int w18, .int w19, .ref g20, .int w21, .ref g22, .ref g23, .ref g24, .int w25, .int w26, .int w27, .ref g28, .ref g29, .int w30, .ref g31, .ref g32, .ref g33])), (g1, .inl (T 0, 282, .inl ga_11)), (g15, .inl (T 0, 10, .inl gh_12))] H locs := V
                  show W p l e _ s m args below meth c H locs _ _ _ (F0 m 144 ls [.int z_9, .int x5])
                  have hga_11 : MS n fa ga_11 := ms_tr (by assumption) f_13
                  refine lv_iadd hx hb dX8_day_144 ?_
                  refine lv_istore (lv' := [(4, .int (x5 + z_9)), (8, .int (nI k60)), (7, .int sv), (6, .int pv), (5, .int (nI k45)), (3, .int xv), (0, .ref o), (1, .int seed), (2, .int (nI jd))]) hx hb dX8_day_145 hl (by decide) rfl (fun ls hl => ?_)
                  refine lv_iinc (v := (nI (k45 + 1))) (lv' := [(5, .int (nI (k45 + 1))), (4, .int (x5 + z_9)), (8, .int (nI k60)), (7, .int sv), (6, .int pv), (3, .int xv), (0, .ref o), (1, .int seed), (2, .int (nI jd))]) hx hb dX8_day_147 hl (k := 4) rfl (nI_1 _) (by decide) rfl (fun ls hl => ?_)
                  refine lv_goto (tgt := 45) hx hb dX8_day_150 (by decide) ?_
                  exact ih_45 (k45 + 1) xv (x5 + z_9) bm_10 gh_12 ga_11 (by omega) (by assumption) (by rw [hxn, hyv]; rfl) (by rw [f_15, hsn, hpn, hI, hyv]; rfl) (by rw [hx5, f_14, hsn, hI, hyv]; rfl) (by omega) _ _ _ V (lv_sub hl [0, 1, 5, 6, 7, 8] rfl)
                · skip
                  have c_8 := b_nle (by omega) (by omega) c_8
                  refine lv_ldc (v := (1103515245)) hx hb hown (hts _ w_1195) dX8_day_71 ?_
                  refine g_vi (y := (nI 1103515245)) (by decide +kernel) ?_
                  refine lv_iload_n hx hb dX8_day_73 rfl (lv_at hl 5 rfl) ?_
                  refine lv_imul hx hb dX8_day_74 ?_
                  refine lv_sipush (v := (nI 12345)) hx hb dX8_day_75 (by decide +kernel) ?_
                  refine lv_iadd hx hb dX8_day_78 ?_
                  have hxe : (nI 1103515245) * xv + (nI 12345) = dyx yv (k60 + 1) := by rw [hxv]; rfl
                  refine lv_istore_n (lv' := [(3, .int (((nI 1103515245) * xv) + (nI 12345))), (8, .int (nI k60)), (7, .int sv), (6, .int pv), (5, .int (nI k45)), (4, .int x5), (0, .ref o), (1, .int seed), (2, .int (nI jd))]) hx hb dX8_day_79 rfl hl (by decide) rfl (fun ls hl => ?_)
                  refine lv_iload_n hx hb dX8_day_80 rfl (lv_at hl 0 rfl) ?_
                  refine lv_bipush (v := (nI 16)) hx hb dX8_day_81 (by decide +kernel) ?_
                  refine lv_iushr hx hb dX8_day_83 rfl ?_
                  refine lv_iconst (v := (nI 3)) hx hb dX8_day_84 (by decide +kernel) ?_
                  refine lv_irem hx hb dX8_day_85 (by decide +kernel) ?_
                  refine lv_istore (lv' := [(9, .int (((((((nI 1103515245) * xv) + (nI 12345))).toUInt32 >>> (((nI 16)).toUInt32 &&& Int32.toUInt32 31)).toInt32) - ((((((nI 1103515245) * xv) + (nI 12345))).toUInt32 >>> (((nI 16)).toUInt32 &&& Int32.toUInt32 31)).toInt32) / (nI 3) * (nI 3))), (3, .int (((nI 1103515245) * xv) + (nI 12345))), (8, .int (nI k60)), (7, .int sv), (6, .int pv), (5, .int (nI k45)), (4, .int x5), (0, .ref o), (1, .int seed), (2, .int (nI jd))]) hx hb dX8_day_86 hl (by decide) rfl (fun ls hl => ?_)
                  refine lv_iload hx hb dX8_day_88 (lv_at hl 4 rfl) ?_
                  refine lv_iload hx hb dX8_day_90 (lv_at hl 0 rfl) ?_
                  refine lv_iconst (v := (nI 1)) hx hb dX8_day_92 (by decide +kernel) ?_
                  refine lv_icmp_ne (tgt := 103) hx hb dX8_day_93 (by decide) (fun c_17 => ?_) (fun c_17 => ?_)
                  · skip
                    refine lv_iconst (v := (nI 0)) hx hb dX8_day_103 (by decide +kernel) ?_
                    refine lv_ior hx hb dX8_day_104 ?_
                    refine lv_istore (lv' := [(6, .int (pv ||| (nI 0))), (9, .int (((((((nI 1103515245) * xv) + (nI 12345))).toUInt32 >>> (((nI 16)).toUInt32 &&& Int32.toUInt32 31)).toInt32) - ((((((nI 1103515245) * xv) + (nI 12345))).toUInt32 >>> (((nI 16)).toUInt32 &&& Int32.toUInt32 31)).toInt32) / (nI 3) * (nI 3))), (3, .int (((nI 1103515245) * xv) + (nI 12345))), (8, .int (nI k60)), (7, .int sv), (5, .int (nI k45)), (4, .int x5), (0, .ref o), (1, .int seed), (2, .int (nI jd))]) hx hb dX8_day_105 hl (by decide) rfl (fun ls hl => ?_)
                    refine lv_iload hx hb dX8_day_107 (lv_at hl 4 rfl) ?_
                    refine lv_iload hx hb dX8_day_109 (lv_at hl 1 rfl) ?_
                    refine lv_iconst (v := (nI 2)) hx hb dX8_day_111 (by decide +kernel) ?_
                    refine lv_icmp_ne (tgt := 122) hx hb dX8_day_112 (by decide) (fun c_18 => ?_) (fun c_18 => ?_)
                    · skip
                      refine lv_iconst (v := (nI 0)) hx hb dX8_day_122 (by decide +kernel) ?_
                      refine lv_ior hx hb dX8_day_123 ?_
                      refine lv_istore (lv' := [(7, .int (sv ||| (nI 0))), (6, .int (pv ||| (nI 0))), (9, .int (((((((nI 1103515245) * xv) + (nI 12345))).toUInt32 >>> (((nI 16)).toUInt32 &&& Int32.toUInt32 31)).toInt32) - ((((((nI 1103515245) * xv) + (nI 12345))).toUInt32 >>> (((nI 16)).toUInt32 &&& Int32.toUInt32 31)).toInt32) / (nI 3) * (nI 3))), (3, .int (((nI 1103515245) * xv) + (nI 12345))), (8, .int (nI k60)), (5, .int (nI k45)), (4, .int x5), (0, .ref o), (1, .int seed), (2, .int (nI jd))]) hx hb dX8_day_124 hl (by decide) rfl (fun ls hl => ?_)
                      refine lv_iinc (v := (nI (k60 + 1))) (lv' := [(8, .int (nI (k60 + 1))), (7, .int (sv ||| (nI 0))), (6, .int (pv ||| (nI 0))), (9, .int (((((((nI 1103515245) * xv) + (nI 12345))).toUInt32 >>> (((nI 16)).toUInt32 &&& Int32.toUInt32 31)).toInt32) - ((((((nI 1103515245) * xv) + (nI 12345))).toUInt32 >>> (((nI 16)).toUInt32 &&& Int32.toUInt32 31)).toInt32) / (nI 3) * (nI 3))), (3, .int (((nI 1103515245) * xv) + (nI 12345))), (5, .int (nI k45)), (4, .int x5), (0, .ref o), (1, .int seed), (2, .int (nI jd))]) hx hb dX8_day_126 hl (k := 4) rfl (nI_1 _) (by decide) rfl (fun ls hl => ?_)
                      refine lv_goto (tgt := 60) hx hb dX8_day_129 (by decide) ?_
                      exact ih_60 (k60 + 1) (((nI 1103515245) * xv) + (nI 12345)) (pv ||| (nI 0)) (sv ||| (nI 0)) (by omega) hxe (by rw [hpv]; exact (dP_n (x := yv) (fun q => c_17 (by rw [← hxe] at q; exact q)))) (by rw [hsv]; exact (dS_n (x := yv) (fun q => c_18 (by rw [← hxe] at q; exact q)))) (by omega) _ _ _ V (lv_sub hl [0, 1, 2, 5, 6, 4, 7, 8, 9] rfl)
                    · skip
                      refine lv_iconst (v := (nI 1)) hx hb dX8_day_115 (by decide +kernel) ?_
                      refine lv_iload hx hb dX8_day_116 (lv_at hl 3 rfl) ?_
                      refine lv_ishl hx hb dX8_day_118 ?_
                      refine lv_goto (tgt := 123) hx hb dX8_day_119 (by decide) ?_
                      refine lv_ior hx hb dX8_day_123 ?_
                      refine lv_istore (lv' := [(7, .int (sv ||| ((nI 1) <<< ((nI k60) &&& 31)))), (6, .int (pv ||| (nI 0))), (9, .int (((((((nI 1103515245) * xv) + (nI 12345))).toUInt32 >>> (((nI 16)).toUInt32 &&& Int32.toUInt32 31)).toInt32) - ((((((nI 1103515245) * xv) + (nI 12345))).toUInt32 >>> (((nI 16)).toUInt32 &&& Int32.toUInt32 31)).toInt32) / (nI 3) * (nI 3))), (3, .int (((nI 1103515245) * xv) + (nI 12345))), (8, .int (nI k60)), (5, .int (nI k45)), (4, .int x5), (0, .ref o), (1, .int seed), (2, .int (nI jd))]) hx hb dX8_day_124 hl (by decide) rfl (fun ls hl => ?_)
                      refine lv_iinc (v := (nI (k60 + 1))) (lv' := [(8, .int (nI (k60 + 1))), (7, .int (sv ||| ((nI 1) <<< ((nI k60) &&& 31)))), (6, .int (pv ||| (nI 0))), (9, .int (((((((nI 1103515245) * xv) + (nI 12345))).toUInt32 >>> (((nI 16)).toUInt32 &&& Int32.toUInt32 31)).toInt32) - ((((((nI 1103515245) * xv) + (nI 12345))).toUInt32 >>> (((nI 16)).toUInt32 &&& Int32.toUInt32 31)).toInt32) / (nI 3) * (nI 3))), (3, .int (((nI 1103515245) * xv) + (nI 12345))), (5, .int (nI k45)), (4, .int x5), (0, .ref o), (1, .int seed), (2, .int (nI jd))]) hx hb dX8_day_126 hl (k := 4) rfl (nI_1 _) (by decide) rfl (fun ls hl => ?_)
                      refine lv_goto (tgt := 60) hx hb dX8_day_129 (by decide) ?_
                      exact ih_60 (k60 + 1) (((nI 1103515245) * xv) + (nI 12345)) (pv ||| (nI 0)) (sv ||| ((nI 1) <<< ((nI k60) &&& 31))) (by omega) hxe (by rw [hpv]; exact (dP_n (x := yv) (fun q => c_17 (by rw [← hxe] at q; exact q)))) (by rw [hsv]; exact (dS_y (x := yv) (by rw [← hxe]; exact c_18))) (by omega) _ _ _ V (lv_sub hl [0, 1, 2, 5, 6, 4, 7, 8, 9] rfl)
                  · skip
                    refine lv_iconst (v := (nI 1)) hx hb dX8_day_96 (by decide +kernel) ?_
                    refine lv_iload hx hb dX8_day_97 (lv_at hl 2 rfl) ?_
                    refine lv_ishl hx hb dX8_day_99 ?_
                    refine lv_goto (tgt := 104) hx hb dX8_day_100 (by decide) ?_
                    refine lv_ior hx hb dX8_day_104 ?_
                    refine lv_istore (lv' := [(6, .int (pv ||| ((nI 1) <<< ((nI k60) &&& 31)))), (9, .int (((((((nI 1103515245) * xv) + (nI 12345))).toUInt32 >>> (((nI 16)).toUInt32 &&& Int32.toUInt32 31)).toInt32) - ((((((nI 1103515245) * xv) + (nI 12345))).toUInt32 >>> (((nI 16)).toUInt32 &&& Int32.toUInt32 31)).toInt32) / (nI 3) * (nI 3))), (3, .int (((nI 1103515245) * xv) + (nI 12345))), (8, .int (nI k60)), (7, .int sv), (5, .int (nI k45)), (4, .int x5), (0, .ref o), (1, .int seed), (2, .int (nI jd))]) hx hb dX8_day_105 hl (by decide) rfl (fun ls hl => ?_)
                    refine lv_iload hx hb dX8_day_107 (lv_at hl 4 rfl) ?_
                    refine lv_iload hx hb dX8_day_109 (lv_at hl 1 rfl) ?_
                    refine lv_iconst (v := (nI 2)) hx hb dX8_day_111 (by decide +kernel) ?_
                    refine lv_icmp_ne (tgt := 122) hx hb dX8_day_112 (by decide) (fun c_19 => ?_) (fun c_19 => ?_)
                    · skip
                      refine lv_iconst (v := (nI 0)) hx hb dX8_day_122 (by decide +kernel) ?_
                      refine lv_ior hx hb dX8_day_123 ?_
                      refine lv_istore (lv' := [(7, .int (sv ||| (nI 0))), (6, .int (pv ||| ((nI 1) <<< ((nI k60) &&& 31)))), (9, .int (((((((nI 1103515245) * xv) + (nI 12345))).toUInt32 >>> (((nI 16)).toUInt32 &&& Int32.toUInt32 31)).toInt32) - ((((((nI 1103515245) * xv) + (nI 12345))).toUInt32 >>> (((nI 16)).toUInt32 &&& Int32.toUInt32 31)).toInt32) / (nI 3) * (nI 3))), (3, .int (((nI 1103515245) * xv) + (nI 12345))), (8, .int (nI k60)), (5, .int (nI k45)), (4, .int x5), (0, .ref o), (1, .int seed), (2, .int (nI jd))]) hx hb dX8_day_124 hl (by decide) rfl (fun ls hl => ?_)
                      refine lv_iinc (v := (nI (k60 + 1))) (lv' := [(8, .int (nI (k60 + 1))), (7, .int (sv ||| (nI 0))), (6, .int (pv ||| ((nI 1) <<< ((nI k60) &&& 31)))), (9, .int (((((((nI 1103515245) * xv) + (nI 12345))).toUInt32 >>> (((nI 16)).toUInt32 &&& Int32.toUInt32 31)).toInt32) - ((((((nI 1103515245) * xv) + (nI 12345))).toUInt32 >>> (((nI 16)).toUInt32 &&& Int32.toUInt32 31)).toInt32) / (nI 3) * (nI 3))), (3, .int (((nI 1103515245) * xv) + (nI 12345))), (5, .int (nI k45)), (4, .int x5), (0, .ref o), (1, .int seed), (2, .int (nI jd))]) hx hb dX8_day_126 hl (k := 4) rfl (nI_1 _) (by decide) rfl (fun ls hl => ?_)
                      refine lv_goto (tgt := 60) hx hb dX8_day_129 (by decide) ?_
                      exact ih_60 (k60 + 1) (((nI 1103515245) * xv) + (nI 12345)) (pv ||| ((nI 1) <<< ((nI k60) &&& 31))) (sv ||| (nI 0)) (by omega) hxe (by rw [hpv]; exact (dP_y (x := yv) (by rw [← hxe]; exact c_17))) (by rw [hsv]; exact (dS_n (x := yv) (fun q => c_19 (by rw [← hxe] at q; exact q)))) (by omega) _ _ _ V (lv_sub hl [0, 1, 2, 5, 6, 4, 7, 8, 9] rfl)
                    · skip
                      refine lv_iconst (v := (nI 1)) hx hb dX8_day_115 (by decide +kernel) ?_
                      refine lv_iload hx hb dX8_day_116 (lv_at hl 3 rfl) ?_
                      refine lv_ishl hx hb dX8_day_118 ?_
                      refine lv_goto (tgt := 123) hx hb dX8_day_119 (by decide) ?_
                      refine lv_ior hx hb dX8_day_123 ?_
                      refine lv_istore (lv' := [(7, .int (sv ||| ((nI 1) <<< ((nI k60) &&& 31)))), (6, .int (pv ||| ((nI 1) <<< ((nI k60) &&& 31)))), (9, .int (((((((nI 1103515245) * xv) + (nI 12345))).toUInt32 >>> (((nI 16)).toUInt32 &&& Int32.toUInt32 31)).toInt32) - ((((((nI 1103515245) * xv) + (nI 12345))).toUInt32 >>> (((nI 16)).toUInt32 &&& Int32.toUInt32 31)).toInt32) / (nI 3) * (nI 3))), (3, .int (((nI 1103515245) * xv) + (nI 12345))), (8, .int (nI k60)), (5, .int (nI k45)), (4, .int x5), (0, .ref o), (1, .int seed), (2, .int (nI jd))]) hx hb dX8_day_124 hl (by decide) rfl (fun ls hl => ?_)
                      refine lv_iinc (v := (nI (k60 + 1))) (lv' := [(8, .int (nI (k60 + 1))), (7, .int (sv ||| ((nI 1) <<< ((nI k60) &&& 31)))), (6, .int (pv ||| ((nI 1) <<< ((nI k60) &&& 31)))), (9, .int (((((((nI 1103515245) * xv) + (nI 12345))).toUInt32 >>> (((nI 16)).toUInt32 &&& Int32.toUInt32 31)).toInt32) - ((((((nI 1103515245) * xv) + (nI 12345))).toUInt32 >>> (((nI 16)).toUInt32 &&& Int32.toUInt32 31)).toInt32) / (nI 3) * (nI 3))), (3, .int (((nI 1103515245) * xv) + (nI 12345))), (5, .int (nI k45)), (4, .int x5), (0, .ref o), (1, .int seed), (2, .int (nI jd))]) hx hb dX8_day_126 hl (k := 4) rfl (nI_1 _) (by decide) rfl (fun ls hl => ?_)
                      refine lv_goto (tgt := 60) hx hb dX8_day_129 (by decide) ?_
                      exact ih_60 (k60 + 1) (((nI 1103515245) * xv) + (nI 12345)) (pv ||| ((nI 1) <<< ((nI k60) &&& 31))) (sv ||| ((nI 1) <<< ((nI k60) &&& 31))) (by omega) hxe (by rw [hpv]; exact (dP_y (x := yv) (by rw [← hxe]; exact c_17))) (by rw [hsv]; exact (dS_y (x := yv) (by rw [← hxe]; exact c_19))) (by omega) _ _ _ V (lv_sub hl [0, 1, 2, 5, 6, 4, 7, 8, 9] rfl)
            exact L_7 _ 0 yv (nI 0) (nI 0) (by omega) rfl rfl rfl (Nat.lt_succ_self _) _ _ _ V (lv_sub hl [0, 1, 2, 3, 4, 5, 6, 7, 8] rfl)
      exact L_5 _ 0 seed (nI 0) w16 fh fa (by omega) (by assumption) rfl rfl rfl (Nat.lt_succ_self _) _ _ _ V (lv_sub hl [0, 1, 2, 3, 4, 5] rfl)
    · skip
      refine lv_bipush (v := (-5)) hx hb dX8_day_34 (by decide +kernel) ?_
      exact g_iret (Qr := (q_m_day_f T n o seed n_ w0 g1 g2 g3 g4 tp w6 w7 w8 w9 w10 w11 w12 w13 w14 g15 w16 g17 w18 w19 g20 w21 g22 g23 g24 w25 w26 w27 g28 g29 w30 g31 g32 g33 fa fh)) hC V ⟨(Nat.le_of_ble_eq_true rfl), (Nat.le_of_ble_eq_true rfl)⟩ ⟨(-5), w16, fa, fh, rfl, rfl, ms0, (day_n (n := n) (f := fa) (x := seed) (tm_5 f_1 f_2 (by rw [ejd]; exact Int32.not_le.mp c_4)) (by decide +kernel)).1, (day_n (n := n) (f := fa) (x := seed) (tm_5 f_1 f_2 (by rw [ejd]; exact Int32.not_le.mp c_4)) (by decide +kernel)).2⟩ dX8_day_36
  · have V : gW D T A s [(o, .inr (8, [.int (nI 0), .ref g1, .ref g2, .ref g3, .ref g4, .int (nI tp), .int w6, .int w7, .int w8, .int w9, .int w10, .int w11, .int w12, .int w13, .int w14, .ref g15, .int w16, .ref g17, .int w18, .int w19, .ref g20, .int w21, .ref g22, .ref g23, .ref g24, .int w25, .int w26, .int w27, .ref g28, .ref g29, .int w30, .ref g31, .ref g32, .ref g33])), (g1, .inl (T 0, 282, .inl fa)), (g15, .inl (T 0, 10, .inl fh))] H locs := V _ [] rfl rfl rfl (by decide +kernel) rfl
    show W p l e _ s m args below meth c H locs _ _ _ (F0 m 14 ls [.int (nI 0)])
    refine lv_if_ne (tgt := 20) hx hb dX8_day_14 (by decide) (fun c => absurd (show (nI 0) = 0 by decide +kernel) c) (fun _ => ?_)
    refine lv_bipush (v := (-3)) hx hb dX8_day_17 (by decide +kernel) ?_
    exact g_iret (Qr := (q_m_day_f T n o seed n_ w0 g1 g2 g3 g4 tp w6 w7 w8 w9 w10 w11 w12 w13 w14 g15 w16 g17 w18 w19 g20 w21 g22 g23 g24 w25 w26 w27 g28 g29 w30 g31 g32 g33 fa fh)) hC V ⟨(Nat.le_of_ble_eq_true rfl), (Nat.le_of_ble_eq_true rfl)⟩ ⟨(-3), w16, fa, fh, rfl, rfl, ms0, (day_n (n := n) (f := fa) (x := seed) (tm_3 f_3) (by decide +kernel)).1, (day_n (n := n) (f := fa) (x := seed) (tm_3 f_3) (by decide +kernel)).2⟩ dX8_day_19

def q_x_day_f (T : Nat → ClassId) (fa : Nat → Int32) (o : Nat) (seed : Int32) (n : Int32) (n0 : Nat) (s0 : Nat) (im : Nat) (iz : Nat) (rw : Nat) (t0 : Nat) (u0 : Nat) (h0 : Nat) (y0 : Nat) (sv : Value) (nn : Nat) (nm : Int32) (nl : Int32) (no : Int32) (nu : Int32) (n1 : Nat) (n2 : Nat) (n3 : Nat) (n4 : Nat) (n5 : Nat) (n6 : Nat) (n7 : Nat) (n8 : Nat) (n9 : Nat) (n10 : Nat) (nf1 : Nat → Int32) (nf2 : Nat → Int32) (nf3 : Nat → Int32) (nf4 : Nat → Int32) (nf5 : Nat → Int32) (nf6 : Nat → Int32) (nf7 : Nat → Int32) (nf8 : Nat → Int32) (nf9 : Nat → Int32) (nf10 : Nat → Int32) : Option Value → va_W → Prop := fun rr ww => (∃ (z : Int32) (mm : Int32) (uu : Int32) (g3 : Nat → Int32) (g7 : Nat → Int32) (g8 : Nat → Int32) (g10 : Nat → Int32), rr = some (.int z) ∧ ww = [(o, .inr (7, [.ref n0, .ref s0, .ref im, .ref iz, .ref rw, .ref t0, .ref u0, .ref h0, .ref y0, sv])), (n0, .inr (5, [.int (nI nn), .int mm, .int nl, .int no, .int uu, .ref n1, .ref n2, .ref n3, .ref n4, .ref n5, .ref n6, .ref n7, .ref n8, .ref n9, .ref n10])), (n1, .inl (T 0, 10, .inl nf1)), (n2, .inl (T 0, 10, .inl nf2)), (n3, .inl (T 0, 10, .inl g3)), (n4, .inl (T 0, 10, .inl nf4)), (n5, .inl (T 0, 10, .inl nf5)), (n6, .inl (T 0, 10, .inl nf6)), (n7, .inl (T 0, 10, .inl g7)), (n8, .inl (T 0, 10, .inl g8)), (n9, .inl (T 0, 10, .inl nf9)), (n10, .inl (T 0, 10, .inl g10))] ∧ z = dayA nn fa seed n ∧ SR nn mm nl no nf1 nf2 g3 nf4 nf5 nf6 g7 nf9 (dayF nn fa seed n))
set_option maxHeartbeats 4000000 in
set_option maxRecDepth 100000 in
theorem x_day_f (l : Launch) (D : va_G) (T : Nat → ClassId) (fa : Nat → Int32) (o : Nat) (seed : Int32) (n : Int32) (n0 : Nat) (s0 : Nat) (im : Nat) (iz : Nat) (rw : Nat) (t0 : Nat) (u0 : Nat) (h0 : Nat) (y0 : Nat) (sv : Value) (nn : Nat) (nm : Int32) (nl : Int32) (no : Int32) (nu : Int32) (n1 : Nat) (n2 : Nat) (n3 : Nat) (n4 : Nat) (n5 : Nat) (n6 : Nat) (n7 : Nat) (n8 : Nat) (n9 : Nat) (n10 : Nat) (nf1 : Nat → Int32) (nf2 : Nat → Int32) (nf3 : Nat → Int32) (nf4 : Nat → Int32) (nf5 : Nat → Int32) (nf6 : Nat → Int32) (nf7 : Nat → Int32) (nf8 : Nat → Int32) (nf9 : Nat → Int32) (nf10 : Nat → Int32) (h_n : nn ≤ 10) (h_t : ∀ i, i < nn → bd (nf9 i) nn) (h_sr : SR nn nm nl no nf1 nf2 nf3 nf4 nf5 nf6 nf7 nf9 fa) (h_a : MI nn fa) : Ct l yX7_day cX7_day 11 (some .int) 3 0 0 D T [.ref o, .int seed, .int n] [(o, .inr (7, [.ref n0, .ref s0, .ref im, .ref iz, .ref rw, .ref t0, .ref u0, .ref h0, .ref y0, sv])), (n0, .inr (5, [.int (nI nn), .int nm, .int nl, .int no, .int nu, .ref n1, .ref n2, .ref n3, .ref n4, .ref n5, .ref n6, .ref n7, .ref n8, .ref n9, .ref n10])), (n1, .inl (T 0, 10, .inl nf1)), (n2, .inl (T 0, 10, .inl nf2)), (n3, .inl (T 0, 10, .inl nf3)), (n4, .inl (T 0, 10, .inl nf4)), (n5, .inl (T 0, 10, .inl nf5)), (n6, .inl (T 0, 10, .inl nf6)), (n7, .inl (T 0, 10, .inl nf7)), (n8, .inl (T 0, 10, .inl nf8)), (n9, .inl (T 0, 10, .inl nf9)), (n10, .inl (T 0, 10, .inl nf10))] (q_x_day_f T fa o seed n n0 s0 im iz rw t0 u0 h0 y0 sv nn nm nl no nu n1 n2 n3 n4 n5 n6 n7 n8 n9 n10 nf1 nf2 nf3 nf4 nf5 nf6 nf7 nf8 nf9 nf10) := by
  refine Ct.of (cc := cX7_day) (maxL := 11) (ret := (some .int)) (by decide) (Nat.le_of_ble_eq_true rfl) ?_
  intro p e s m args below meth c A ls hC hnm V hl
  obtain ⟨hx, hb, hr, hml, hown, hts, hlocks⟩ := id hC
  generalize hH : s.heap = H at V ⊢
  clear hH
  have hl : lv_has ls 11 [(0, .ref o), (1, .int seed), (2, .int n)] := hl
  generalize hlo : ([] : List Loc) = locs at V ⊢
  clear hlo
  refine lv_aload_n hx hb dX7_day_0 rfl (lv_at hl 0 rfl) ?_
  refine lv_iload_n hx hb dX7_day_1 rfl (lv_at hl 2 rfl) ?_
  refine lv_bipush (v := (nI 60)) hx hb dX7_day_2 (by decide +kernel) ?_
  refine g_callVU (nA := 2) hC V hl.1 (x_refMin_f l D T o n 60 n0 s0 im iz rw t0 u0 h0 y0 sv nn nm nl no nu n1 n2 n3 n4 n5 n6 n7 n8 n9 n10 (by first | assumption | omega)) w_532 w_534 w_s12 w_2 w_535 (by decide +kernel) rfl ⟨(Nat.le_of_ble_eq_true rfl), (Nat.le_of_ble_eq_true rfl)⟩ 0 (ci := 7) rfl rfl [0, 1] rfl rfl (Nat.le_of_ble_eq_true rfl) dX7_day_4 ⟨(Nat.le_of_ble_eq_true rfl), (Nat.le_of_ble_eq_true rfl)⟩ rfl (fun r w1 H locs hQ V => ?_)
  rcases hQ with ⟨jd, rfl, rfl, f_1, f_2, f_3, f_4⟩ | ⟨z_5, rfl, rfl, f_6, f_7⟩
  · have V : gW D T A s [(o, .inr (7, [.ref n0, .ref s0, .ref im, .ref iz, .ref rw, .ref t0, .ref u0, .ref h0, .ref y0, sv])), (n0, .inr (5, [.int (nI nn), .int nm, .int nl, .int no, .int nu, .ref n1, .ref n2, .ref n3, .ref n4, .ref n5, .ref n6, .ref n7, .ref n8, .ref n9, .ref n10])), (n1, .inl (T 0, 10, .inl nf1)), (n2, .inl (T 0, 10, .inl nf2)), (n3, .inl (T 0, 10, .inl nf3)), (n4, .inl (T 0, 10, .inl nf4)), (n5, .inl (T 0, 10, .inl nf5)), (n6, .inl (T 0, 10, .inl nf6)), (n7, .inl (T 0, 10, .inl nf7)), (n8, .inl (T 0, 10, .inl nf8)), (n9, .inl (T 0, 10, .inl nf9)), (n10, .inl (T 0, 10, .inl nf10))] H locs := V _ [0, 0] rfl rfl rfl (by decide +kernel) rfl
    show W p l e _ s m args below meth c H locs _ _ _ (F0 m 7 ls [.int (nI 0)])
    rw [f_3] at hl
    refine lv_istore_n (lv' := [(3, .int (nI 0)), (0, .ref o), (1, .int seed), (2, .int (nI jd))]) hx hb dX7_day_7 rfl hl (by decide) rfl (fun ls hl => ?_)
    refine lv_iload_n hx hb dX7_day_8 rfl (lv_at hl 0 rfl) ?_
    refine lv_if_eq (tgt := 14) hx hb dX7_day_9 (by decide) (fun _ => ?_) (fun c => absurd (show (nI 0) = 0 by decide +kernel) c)
    refine lv_iload_n hx hb dX7_day_14 rfl (lv_at hl 2 rfl) ?_
    refine lv_istore (lv' := [(4, .int seed), (3, .int (nI 0)), (0, .ref o), (1, .int seed), (2, .int (nI jd))]) hx hb dX7_day_15 hl (by decide) rfl (fun ls hl => ?_)
    refine lv_iconst (v := (nI 0)) hx hb dX7_day_17 (by decide +kernel) ?_
    refine lv_istore (lv' := [(5, .int (nI 0)), (4, .int seed), (3, .int (nI 0)), (0, .ref o), (1, .int seed), (2, .int (nI jd))]) hx hb dX7_day_18 hl (by decide) rfl (fun ls hl => ?_)
    refine lv_iconst (v := (nI 0)) hx hb dX7_day_20 (by decide +kernel) ?_
    refine lv_istore (lv' := [(6, .int (nI 0)), (5, .int (nI 0)), (4, .int seed), (3, .int (nI 0)), (0, .ref o), (1, .int seed), (2, .int (nI jd))]) hx hb dX7_day_21 hl (by decide) rfl (fun ls hl => ?_)
    have L_8 : ∀ (fu : Nat) (k23 : Nat) (yv : Int32) (x5 : Int32) (mv : Int32) (uv : Int32) (ga : Nat → Int32) (gb : Nat → Int32) (gc : Nat → Int32) (gd : Nat → Int32), k23 ≤ jd → yv = dyX nn seed k23 → SR nn mv nl no nf1 nf2 ga nf4 nf5 nf6 gb nf9 (dyI nn fa seed k23) → x5 = dyC nn fa seed k23 → jd - k23 < fu → ∀ (H : Heap) (locs : List Loc) (ls : Array Slot), gW D T A s [(o, .inr (7, [.ref n0, .ref s0, .ref im, .ref iz, .ref rw, .ref t0, .ref u0, .ref h0, .ref y0, sv])), (n0, .inr (5, [.int (nI nn), .int mv, .int nl, .int no, .int uv, .ref n1, .ref n2, .ref n3, .ref n4, .ref n5, .ref n6, .ref n7, .ref n8, .ref n9, .ref n10])), (n1, .inl (T 0, 10, .inl nf1)), (n2, .inl (T 0, 10, .inl nf2)), (n3, .inl (T 0, 10, .inl ga)), (n4, .inl (T 0, 10, .inl nf4)), (n5, .inl (T 0, 10, .inl nf5)), (n6, .inl (T 0, 10, .inl nf6)), (n7, .inl (T 0, 10, .inl gb)), (n8, .inl (T 0, 10, .inl gc)), (n9, .inl (T 0, 10, .inl nf9)), (n10, .inl (T 0, 10, .inl gd))] H locs → lv_has ls 11 [(6, .int (nI k23)), (5, .int x5), (4, .int yv), (3, .int (nI 0)), (0, .ref o), (1, .int seed), (2, .int (nI jd))] → W p l e (rmD 3 0 0) s m args below meth c H locs 0 0 (MQ below (gQ D A (q_x_day_f T fa o seed n n0 s0 im iz rw t0 u0 h0 y0 sv nn nm nl no nu n1 n2 n3 n4 n5 n6 n7 n8 n9 n10 nf1 nf2 nf3 nf4 nf5 nf6 nf7 nf8 nf9 nf10)) args s 0 0 A) (F0 m 23 ls []) := by
      intro fu_23
      induction fu_23 with
      | zero => intro k23 yv x5 mv uv ga gb gc gd hk23 hyv hSR hx5 hmu; exact absurd hmu (Nat.not_lt_zero _)
      | succ fu_23 ih_23 =>
        intro k23 yv x5 mv uv ga gb gc gd hk23 hyv hSR hx5 hmu_23 H locs ls V hl
        refine lv_iload hx hb dX7_day_23 (lv_at hl 0 rfl) ?_
        refine lv_iload_n hx hb dX7_day_25 rfl (lv_at hl 6 rfl) ?_
        refine lv_icmp_ge (tgt := 138) hx hb dX7_day_26 (by decide) (fun c_9 => ?_) (fun c_9 => ?_)
        · skip
          have c_9 := b_le (by omega) (by omega) c_9
          refine lv_iload hx hb dX7_day_138 (lv_at hl 1 rfl) ?_
          exact g_iret (Qr := (q_x_day_f T fa o seed n n0 s0 im iz rw t0 u0 h0 y0 sv nn nm nl no nu n1 n2 n3 n4 n5 n6 n7 n8 n9 n10 nf1 nf2 nf3 nf4 nf5 nf6 nf7 nf8 nf9 nf10)) hC V ⟨(Nat.le_of_ble_eq_true rfl), (Nat.le_of_ble_eq_true rfl)⟩ ⟨x5, mv, uv, ga, gb, gc, gd, rfl, rfl, (by rw [← (day_y (n := nn) (f := fa) (x := seed) (by rw [h_sr.2.1]; exact f_4) f_3 (by omega)).1, hx5]; congr 1; omega), (by rw [← (day_y (n := nn) (f := fa) (x := seed) (by rw [h_sr.2.1]; exact f_4) f_3 (by omega)).2]; have q := hSR; rw [show k23 = jd by omega] at q; exact q)⟩ dX7_day_140
        · skip
          have c_9 := b_nle (by omega) (by omega) c_9
          refine lv_iconst (v := (nI 0)) hx hb dX7_day_29 (by decide +kernel) ?_
          refine lv_istore (lv' := [(7, .int (nI 0)), (6, .int (nI k23)), (5, .int x5), (4, .int yv), (3, .int (nI 0)), (0, .ref o), (1, .int seed), (2, .int (nI jd))]) hx hb dX7_day_30 hl (by decide) rfl (fun ls hl => ?_)
          refine lv_iconst (v := (nI 0)) hx hb dX7_day_32 (by decide +kernel) ?_
          refine lv_istore (lv' := [(8, .int (nI 0)), (7, .int (nI 0)), (6, .int (nI k23)), (5, .int x5), (4, .int yv), (3, .int (nI 0)), (0, .ref o), (1, .int seed), (2, .int (nI jd))]) hx hb dX7_day_33 hl (by decide) rfl (fun ls hl => ?_)
          refine lv_iconst (v := (nI 0)) hx hb dX7_day_35 (by decide +kernel) ?_
          refine lv_istore (lv' := [(9, .int (nI 0)), (8, .int (nI 0)), (7, .int (nI 0)), (6, .int (nI k23)), (5, .int x5), (4, .int yv), (3, .int (nI 0)), (0, .ref o), (1, .int seed), (2, .int (nI jd))]) hx hb dX7_day_36 hl (by decide) rfl (fun ls hl => ?_)
          have L_10 : ∀ (fu : Nat) (k38 : Nat) (xv : Int32) (pv : Int32) (skv : Int32), k38 ≤ nn → xv = dyx yv k38 → pv = dyP yv k38 → skv = dyS yv k38 → nn - k38 < fu → ∀ (H : Heap) (locs : List Loc) (ls : Array Slot), gW D T A s [(o, .inr (7, [.ref n0, .ref s0, .ref im, .ref iz, .ref rw, .ref t0, .ref u0, .ref h0, .ref y0, sv])), (n0, .inr (5, [.int (nI nn), .int mv, .int nl, .int no, .int uv, .ref n1, .ref n2, .ref n3, .ref n4, .ref n5, .ref n6, .ref n7, .ref n8, .ref n9, .ref n10])), (n1, .inl (T 0, 10, .inl nf1)), (n2, .inl (T 0, 10, .inl nf2)), (n3, .inl (T 0, 10, .inl ga)), (n4, .inl (T 0, 10, .inl nf4)), (n5, .inl (T 0, 10, .inl nf5)), (n6, .inl (T 0, 10, .inl nf6)), (n7, .inl (T 0, 10, .inl gb)), (n8, .inl (T 0, 10, .inl gc)), (n9, .inl (T 0, 10, .inl nf9)), (n10, .inl (T 0, 10, .inl gd))] H locs → lv_has ls 11 [(9, .int (nI k38)), (8, .int skv), (7, .int pv), (6, .int (nI k23)), (5, .int x5), (4, .int xv), (3, .int (nI 0)), (0, .ref o), (1, .int seed), (2, .int (nI jd))] → W p l e (rmD 3 0 0) s m args below meth c H locs 0 0 (MQ below (gQ D A (q_x_day_f T fa o seed n n0 s0 im iz rw t0 u0 h0 y0 sv nn nm nl no nu n1 n2 n3 n4 n5 n6 n7 n8 n9 n10 nf1 nf2 nf3 nf4 nf5 nf6 nf7 nf8 nf9 nf10)) args s 0 0 A) (F0 m 38 ls []) := by
            intro fu_38
            induction fu_38 with
            | zero => intro k38 xv pv skv hk38 hxv hpv hsv hmu; exact absurd hmu (Nat.not_lt_zero _)
            | succ fu_38 ih_38 =>
              intro k38 xv pv skv hk38 hxv hpv hsv hmu_38 H locs ls V hl
              refine lv_iload hx hb dX7_day_38 (lv_at hl 0 rfl) ?_
              refine lv_aload_n hx hb dX7_day_40 rfl (lv_at hl 7 rfl) ?_
              refine g_get hC V (ci := 7) uwX7 0 rfl rfl 0 (by decide) w_249 rfl rfl dX7_day_41 ?_
              refine g_get hC V (ci := 5) uwX5 1 rfl rfl 0 (by decide) w_38 rfl rfl dX7_day_44 ?_
              refine lv_icmp_ge (tgt := 114) hx hb dX7_day_47 (by decide) (fun c_11 => ?_) (fun c_11 => ?_)
              · skip
                have c_11 := b_le (by omega) (by omega) c_11
                have hxn : xv = dyx yv nn := by rw [hxv]; congr 1; omega
                have hsn : skv = dyS yv nn := by rw [hsv]; congr 1; omega
                have hpn : pv = dyP yv nn := by rw [hpv]; congr 1; omega
                refine lv_iload hx hb dX7_day_114 (lv_at hl 4 rfl) ?_
                refine lv_aload_n hx hb dX7_day_116 rfl (lv_at hl 7 rfl) ?_
                refine g_get hC V (ci := 7) uwX7 0 rfl rfl 0 (by decide) w_249 rfl rfl dX7_day_117 ?_
                refine lv_iload hx hb dX7_day_120 (lv_at hl 2 rfl) ?_
                refine lv_iload hx hb dX7_day_122 (lv_at hl 1 rfl) ?_
                refine lv_iconst (v := (-1)) hx hb dX7_day_124 (by decide +kernel) ?_
                refine lv_iconst (v := (nI 0)) hx hb dX7_day_125 (by decide +kernel) ?_
                refine g_callVU (nA := 4) hC V hl.1 (s_pass_f l D T (dyI nn fa seed k23) n0 pv skv (-1) (nI 0) nn mv nl no uv n1 n2 n3 n4 n5 n6 n7 n8 n9 n10 nf1 nf2 ga nf4 nf5 nf6 gb gc nf9 gd h_n h_t (fun i hi => (hSR.2.2.2.2 i hi).1) (fun i hi => (hSR.2.2.2.2 i hi).2.1) (fun i hi => (hSR.2.2.2.2 i hi).2.2.1) (fun i hi => (hSR.2.2.2.2 i hi).2.2.2.1) (fun i hi => (hSR.2.2.2.2 i hi).2.2.2.2.1) (fun i hi => (hSR.2.2.2.2 i hi).2.2.2.2.2.1) (fun i hi => (hSR.2.2.2.2 i hi).2.2.2.2.2.2.1) (fun i hi => (hSR.2.2.2.2 i hi).2.2.2.2.2.2.2) hSR.2.2.1.symm (dyI_mi h_a _)) w_466 w_467 w_468 w_3 w_469 (by decide +kernel) rfl ⟨(Nat.le_of_ble_eq_true rfl), (Nat.le_of_ble_eq_true rfl)⟩ 1 (ci := 5) rfl rfl [1, 2, 3, 4, 5, 6, 7, 8, 9, 10, 11] rfl rfl (Nat.le_of_ble_eq_true rfl) dX7_day_126 ⟨(Nat.le_of_ble_eq_true rfl), (Nat.le_of_ble_eq_true rfl)⟩ rfl (fun r w1 H locs hQ V => ?_)
                obtain ⟨z_12, u_13, g3_14, g7_15, g8_16, g10_17, rfl, rfl, f_18, f_19, f_20, f_21⟩ := hQ
                have V : gW D T A s [(o, .inr (7, [.ref n0, .ref s0, .ref im, .ref iz, .ref rw, .ref t0, .ref u0, .ref h0, .ref y0, sv])), (n0, .inr (5, [.int (nI nn), .int (mv + (nI 1)), .int nl, .int no, .int u_13, .ref n1, .ref n2, .ref n3, .ref n4, .ref n5, .ref n6, .ref n7, .ref n8, .ref n9, .ref n10])), (n1, .inl (T 0, 10, .inl nf1)), (n2, .inl (T 0, 10, .inl nf2)), (n3, .inl (T 0, 10, .inl g3_14)), (n4, .inl (T 0, 10, .inl nf4)), (n5, .inl (T 0, 10, .inl nf5)), (n6, .inl (T 0, 10, .inl nf6)), (n7, .inl (T 0, 10, .inl g7_15)), (n8, .inl (T 0, 10, .inl g8_16)), (n9, .inl (T 0, 10, .inl nf9)), (n10, .inl (T 0, 10, .inl g10_17))] H locs := V _ [1, 0, 0, 0, 0, 0, 0, 0, 0, 0, 0] rfl rfl rfl (by decide +kernel) rfl
                show W p l e _ s m args below meth c H locs _ _ _ (F0 m 129 ls [.int z_12, .int x5])
                refine lv_iadd hx hb dX7_day_129 ?_
                refine lv_istore (lv' := [(5, .int (x5 + z_12)), (9, .int (nI k38)), (8, .int skv), (7, .int pv), (6, .int (nI k23)), (4, .int xv), (3, .int (nI 0)), (0, .ref o), (1, .int seed), (2, .int (nI jd))]) hx hb dX7_day_130 hl (by decide) rfl (fun ls hl => ?_)
                refine lv_iinc (v := (nI (k23 + 1))) (lv' := [(6, .int (nI (k23 + 1))), (5, .int (x5 + z_12)), (9, .int (nI k38)), (8, .int skv), (7, .int pv), (4, .int xv), (3, .int (nI 0)), (0, .ref o), (1, .int seed), (2, .int (nI jd))]) hx hb dX7_day_132 hl (k := 4) rfl (nI_1 _) (by decide) rfl (fun ls hl => ?_)
                refine lv_goto (tgt := 23) hx hb dX7_day_135 (by decide) ?_
                exact ih_23 (k23 + 1) xv (x5 + z_12) (mv + (nI 1)) u_13 g3_14 g7_15 g8_16 g10_17 (by omega) (by rw [hxn, hyv]; rfl) (by have q := SR_go h_n hSR f_19 f_20; rw [hpn, hsn, hyv] at q; exact q) (by rw [hx5, f_18, hsn, hyv]; rfl) (by omega) _ _ _ V (lv_sub hl [0, 1, 5, 6, 7, 8, 9] rfl)
              · skip
                have c_11 := b_nle (by omega) (by omega) c_11
                refine lv_ldc (v := (1103515245)) hx hb hown (hts _ w_561) dX7_day_50 ?_
                refine g_vi (y := (nI 1103515245)) (by decide +kernel) ?_
                refine lv_iload hx hb dX7_day_52 (lv_at hl 5 rfl) ?_
                refine lv_imul hx hb dX7_day_54 ?_
                refine lv_sipush (v := (nI 12345)) hx hb dX7_day_55 (by decide +kernel) ?_
                refine lv_iadd hx hb dX7_day_58 ?_
                have hxe : (nI 1103515245) * xv + (nI 12345) = dyx yv (k38 + 1) := by rw [hxv]; rfl
                refine lv_istore (lv' := [(4, .int (((nI 1103515245) * xv) + (nI 12345))), (9, .int (nI k38)), (8, .int skv), (7, .int pv), (6, .int (nI k23)), (5, .int x5), (3, .int (nI 0)), (0, .ref o), (1, .int seed), (2, .int (nI jd))]) hx hb dX7_day_59 hl (by decide) rfl (fun ls hl => ?_)
                refine lv_iload hx hb dX7_day_61 (lv_at hl 0 rfl) ?_
                refine lv_bipush (v := (nI 16)) hx hb dX7_day_63 (by decide +kernel) ?_
                refine lv_iushr hx hb dX7_day_65 rfl ?_
                refine lv_iconst (v := (nI 3)) hx hb dX7_day_66 (by decide +kernel) ?_
                refine lv_irem hx hb dX7_day_67 (by decide +kernel) ?_
                refine lv_istore (lv' := [(10, .int (((((((nI 1103515245) * xv) + (nI 12345))).toUInt32 >>> (((nI 16)).toUInt32 &&& Int32.toUInt32 31)).toInt32) - ((((((nI 1103515245) * xv) + (nI 12345))).toUInt32 >>> (((nI 16)).toUInt32 &&& Int32.toUInt32 31)).toInt32) / (nI 3) * (nI 3))), (4, .int (((nI 1103515245) * xv) + (nI 12345))), (9, .int (nI k38)), (8, .int skv), (7, .int pv), (6, .int (nI k23)), (5, .int x5), (3, .int (nI 0)), (0, .ref o), (1, .int seed), (2, .int (nI jd))]) hx hb dX7_day_68 hl (by decide) rfl (fun ls hl => ?_)
                refine lv_iload hx hb dX7_day_70 (lv_at hl 4 rfl) ?_
                refine lv_iload hx hb dX7_day_72 (lv_at hl 0 rfl) ?_
                refine lv_iconst (v := (nI 1)) hx hb dX7_day_74 (by decide +kernel) ?_
                refine lv_icmp_ne (tgt := 85) hx hb dX7_day_75 (by decide) (fun c_22 => ?_) (fun c_22 => ?_)
                · skip
                  refine lv_iconst (v := (nI 0)) hx hb dX7_day_85 (by decide +kernel) ?_
                  refine lv_ior hx hb dX7_day_86 ?_
                  refine lv_istore (lv' := [(7, .int (pv ||| (nI 0))), (10, .int (((((((nI 1103515245) * xv) + (nI 12345))).toUInt32 >>> (((nI 16)).toUInt32 &&& Int32.toUInt32 31)).toInt32) - ((((((nI 1103515245) * xv) + (nI 12345))).toUInt32 >>> (((nI 16)).toUInt32 &&& Int32.toUInt32 31)).toInt32) / (nI 3) * (nI 3))), (4, .int (((nI 1103515245) * xv) + (nI 12345))), (9, .int (nI k38)), (8, .int skv), (6, .int (nI k23)), (5, .int x5), (3, .int (nI 0)), (0, .ref o), (1, .int seed), (2, .int (nI jd))]) hx hb dX7_day_87 hl (by decide) rfl (fun ls hl => ?_)
                  refine lv_iload hx hb dX7_day_89 (lv_at hl 4 rfl) ?_
                  refine lv_iload hx hb dX7_day_91 (lv_at hl 1 rfl) ?_
                  refine lv_iconst (v := (nI 2)) hx hb dX7_day_93 (by decide +kernel) ?_
                  refine lv_icmp_ne (tgt := 104) hx hb dX7_day_94 (by decide) (fun c_23 => ?_) (fun c_23 => ?_)
                  · skip
                    refine lv_iconst (v := (nI 0)) hx hb dX7_day_104 (by decide +kernel) ?_
                    refine lv_ior hx hb dX7_day_105 ?_
                    refine lv_istore (lv' := [(8, .int (skv ||| (nI 0))), (7, .int (pv ||| (nI 0))), (10, .int (((((((nI 1103515245) * xv) + (nI 12345))).toUInt32 >>> (((nI 16)).toUInt32 &&& Int32.toUInt32 31)).toInt32) - ((((((nI 1103515245) * xv) + (nI 12345))).toUInt32 >>> (((nI 16)).toUInt32 &&& Int32.toUInt32 31)).toInt32) / (nI 3) * (nI 3))), (4, .int (((nI 1103515245) * xv) + (nI 12345))), (9, .int (nI k38)), (6, .int (nI k23)), (5, .int x5), (3, .int (nI 0)), (0, .ref o), (1, .int seed), (2, .int (nI jd))]) hx hb dX7_day_106 hl (by decide) rfl (fun ls hl => ?_)
                    refine lv_iinc (v := (nI (k38 + 1))) (lv' := [(9, .int (nI (k38 + 1))), (8, .int (skv ||| (nI 0))), (7, .int (pv ||| (nI 0))), (10, .int (((((((nI 1103515245) * xv) + (nI 12345))).toUInt32 >>> (((nI 16)).toUInt32 &&& Int32.toUInt32 31)).toInt32) - ((((((nI 1103515245) * xv) + (nI 12345))).toUInt32 >>> (((nI 16)).toUInt32 &&& Int32.toUInt32 31)).toInt32) / (nI 3) * (nI 3))), (4, .int (((nI 1103515245) * xv) + (nI 12345))), (6, .int (nI k23)), (5, .int x5), (3, .int (nI 0)), (0, .ref o), (1, .int seed), (2, .int (nI jd))]) hx hb dX7_day_108 hl (k := 4) rfl (nI_1 _) (by decide) rfl (fun ls hl => ?_)
                    refine lv_goto (tgt := 38) hx hb dX7_day_111 (by decide) ?_
                    exact ih_38 (k38 + 1) (((nI 1103515245) * xv) + (nI 12345)) (pv ||| (nI 0)) (skv ||| (nI 0)) (by omega) hxe (by rw [hpv]; exact (dP_n (x := yv) (fun q => c_22 (by rw [← hxe] at q; exact q)))) (by rw [hsv]; exact (dS_n (x := yv) (fun q => c_23 (by rw [← hxe] at q; exact q)))) (by omega) _ _ _ V (lv_sub hl [0, 1, 2, 5, 6, 4, 7, 8, 9, 10] rfl)
                  · skip
                    refine lv_iconst (v := (nI 1)) hx hb dX7_day_97 (by decide +kernel) ?_
                    refine lv_iload hx hb dX7_day_98 (lv_at hl 3 rfl) ?_
                    refine lv_ishl hx hb dX7_day_100 ?_
                    refine lv_goto (tgt := 105) hx hb dX7_day_101 (by decide) ?_
                    refine lv_ior hx hb dX7_day_105 ?_
                    refine lv_istore (lv' := [(8, .int (skv ||| ((nI 1) <<< ((nI k38) &&& 31)))), (7, .int (pv ||| (nI 0))), (10, .int (((((((nI 1103515245) * xv) + (nI 12345))).toUInt32 >>> (((nI 16)).toUInt32 &&& Int32.toUInt32 31)).toInt32) - ((((((nI 1103515245) * xv) + (nI 12345))).toUInt32 >>> (((nI 16)).toUInt32 &&& Int32.toUInt32 31)).toInt32) / (nI 3) * (nI 3))), (4, .int (((nI 1103515245) * xv) + (nI 12345))), (9, .int (nI k38)), (6, .int (nI k23)), (5, .int x5), (3, .int (nI 0)), (0, .ref o), (1, .int seed), (2, .int (nI jd))]) hx hb dX7_day_106 hl (by decide) rfl (fun ls hl => ?_)
                    refine lv_iinc (v := (nI (k38 + 1))) (lv' := [(9, .int (nI (k38 + 1))), (8, .int (skv ||| ((nI 1) <<< ((nI k38) &&& 31)))), (7, .int (pv ||| (nI 0))), (10, .int (((((((nI 1103515245) * xv) + (nI 12345))).toUInt32 >>> (((nI 16)).toUInt32 &&& Int32.toUInt32 31)).toInt32) - ((((((nI 1103515245) * xv) + (nI 12345))).toUInt32 >>> (((nI 16)).toUInt32 &&& Int32.toUInt32 31)).toInt32) / (nI 3) * (nI 3))), (4, .int (((nI 1103515245) * xv) + (nI 12345))), (6, .int (nI k23)), (5, .int x5), (3, .int (nI 0)), (0, .ref o), (1, .int seed), (2, .int (nI jd))]) hx hb dX7_day_108 hl (k := 4) rfl (nI_1 _) (by decide) rfl (fun ls hl => ?_)
                    refine lv_goto (tgt := 38) hx hb dX7_day_111 (by decide) ?_
                    exact ih_38 (k38 + 1) (((nI 1103515245) * xv) + (nI 12345)) (pv ||| (nI 0)) (skv ||| ((nI 1) <<< ((nI k38) &&& 31))) (by omega) hxe (by rw [hpv]; exact (dP_n (x := yv) (fun q => c_22 (by rw [← hxe] at q; exact q)))) (by rw [hsv]; exact (dS_y (x := yv) (by rw [← hxe]; exact c_23))) (by omega) _ _ _ V (lv_sub hl [0, 1, 2, 5, 6, 4, 7, 8, 9, 10] rfl)
                · skip
                  refine lv_iconst (v := (nI 1)) hx hb dX7_day_78 (by decide +kernel) ?_
                  refine lv_iload hx hb dX7_day_79 (lv_at hl 2 rfl) ?_
                  refine lv_ishl hx hb dX7_day_81 ?_
                  refine lv_goto (tgt := 86) hx hb dX7_day_82 (by decide) ?_
                  refine lv_ior hx hb dX7_day_86 ?_
                  refine lv_istore (lv' := [(7, .int (pv ||| ((nI 1) <<< ((nI k38) &&& 31)))), (10, .int (((((((nI 1103515245) * xv) + (nI 12345))).toUInt32 >>> (((nI 16)).toUInt32 &&& Int32.toUInt32 31)).toInt32) - ((((((nI 1103515245) * xv) + (nI 12345))).toUInt32 >>> (((nI 16)).toUInt32 &&& Int32.toUInt32 31)).toInt32) / (nI 3) * (nI 3))), (4, .int (((nI 1103515245) * xv) + (nI 12345))), (9, .int (nI k38)), (8, .int skv), (6, .int (nI k23)), (5, .int x5), (3, .int (nI 0)), (0, .ref o), (1, .int seed), (2, .int (nI jd))]) hx hb dX7_day_87 hl (by decide) rfl (fun ls hl => ?_)
                  refine lv_iload hx hb dX7_day_89 (lv_at hl 4 rfl) ?_
                  refine lv_iload hx hb dX7_day_91 (lv_at hl 1 rfl) ?_
                  refine lv_iconst (v := (nI 2)) hx hb dX7_day_93 (by decide +kernel) ?_
                  refine lv_icmp_ne (tgt := 104) hx hb dX7_day_94 (by decide) (fun c_24 => ?_) (fun c_24 => ?_)
                  · skip
                    refine lv_iconst (v := (nI 0)) hx hb dX7_day_104 (by decide +kernel) ?_
                    refine lv_ior hx hb dX7_day_105 ?_
                    refine lv_istore (lv' := [(8, .int (skv ||| (nI 0))), (7, .int (pv ||| ((nI 1) <<< ((nI k38) &&& 31)))), (10, .int (((((((nI 1103515245) * xv) + (nI 12345))).toUInt32 >>> (((nI 16)).toUInt32 &&& Int32.toUInt32 31)).toInt32) - ((((((nI 1103515245) * xv) + (nI 12345))).toUInt32 >>> (((nI 16)).toUInt32 &&& Int32.toUInt32 31)).toInt32) / (nI 3) * (nI 3))), (4, .int (((nI 1103515245) * xv) + (nI 12345))), (9, .int (nI k38)), (6, .int (nI k23)), (5, .int x5), (3, .int (nI 0)), (0, .ref o), (1, .int seed), (2, .int (nI jd))]) hx hb dX7_day_106 hl (by decide) rfl (fun ls hl => ?_)
                    refine lv_iinc (v := (nI (k38 + 1))) (lv' := [(9, .int (nI (k38 + 1))), (8, .int (skv ||| (nI 0))), (7, .int (pv ||| ((nI 1) <<< ((nI k38) &&& 31)))), (10, .int (((((((nI 1103515245) * xv) + (nI 12345))).toUInt32 >>> (((nI 16)).toUInt32 &&& Int32.toUInt32 31)).toInt32) - ((((((nI 1103515245) * xv) + (nI 12345))).toUInt32 >>> (((nI 16)).toUInt32 &&& Int32.toUInt32 31)).toInt32) / (nI 3) * (nI 3))), (4, .int (((nI 1103515245) * xv) + (nI 12345))), (6, .int (nI k23)), (5, .int x5), (3, .int (nI 0)), (0, .ref o), (1, .int seed), (2, .int (nI jd))]) hx hb dX7_day_108 hl (k := 4) rfl (nI_1 _) (by decide) rfl (fun ls hl => ?_)
                    refine lv_goto (tgt := 38) hx hb dX7_day_111 (by decide) ?_
                    exact ih_38 (k38 + 1) (((nI 1103515245) * xv) + (nI 12345)) (pv ||| ((nI 1) <<< ((nI k38) &&& 31))) (skv ||| (nI 0)) (by omega) hxe (by rw [hpv]; exact (dP_y (x := yv) (by rw [← hxe]; exact c_22))) (by rw [hsv]; exact (dS_n (x := yv) (fun q => c_24 (by rw [← hxe] at q; exact q)))) (by omega) _ _ _ V (lv_sub hl [0, 1, 2, 5, 6, 4, 7, 8, 9, 10] rfl)
                  · skip
                    refine lv_iconst (v := (nI 1)) hx hb dX7_day_97 (by decide +kernel) ?_
                    refine lv_iload hx hb dX7_day_98 (lv_at hl 3 rfl) ?_
                    refine lv_ishl hx hb dX7_day_100 ?_
                    refine lv_goto (tgt := 105) hx hb dX7_day_101 (by decide) ?_
                    refine lv_ior hx hb dX7_day_105 ?_
                    refine lv_istore (lv' := [(8, .int (skv ||| ((nI 1) <<< ((nI k38) &&& 31)))), (7, .int (pv ||| ((nI 1) <<< ((nI k38) &&& 31)))), (10, .int (((((((nI 1103515245) * xv) + (nI 12345))).toUInt32 >>> (((nI 16)).toUInt32 &&& Int32.toUInt32 31)).toInt32) - ((((((nI 1103515245) * xv) + (nI 12345))).toUInt32 >>> (((nI 16)).toUInt32 &&& Int32.toUInt32 31)).toInt32) / (nI 3) * (nI 3))), (4, .int (((nI 1103515245) * xv) + (nI 12345))), (9, .int (nI k38)), (6, .int (nI k23)), (5, .int x5), (3, .int (nI 0)), (0, .ref o), (1, .int seed), (2, .int (nI jd))]) hx hb dX7_day_106 hl (by decide) rfl (fun ls hl => ?_)
                    refine lv_iinc (v := (nI (k38 + 1))) (lv' := [(9, .int (nI (k38 + 1))), (8, .int (skv ||| ((nI 1) <<< ((nI k38) &&& 31)))), (7, .int (pv ||| ((nI 1) <<< ((nI k38) &&& 31)))), (10, .int (((((((nI 1103515245) * xv) + (nI 12345))).toUInt32 >>> (((nI 16)).toUInt32 &&& Int32.toUInt32 31)).toInt32) - ((((((nI 1103515245) * xv) + (nI 12345))).toUInt32 >>> (((nI 16)).toUInt32 &&& Int32.toUInt32 31)).toInt32) / (nI 3) * (nI 3))), (4, .int (((nI 1103515245) * xv) + (nI 12345))), (6, .int (nI k23)), (5, .int x5), (3, .int (nI 0)), (0, .ref o), (1, .int seed), (2, .int (nI jd))]) hx hb dX7_day_108 hl (k := 4) rfl (nI_1 _) (by decide) rfl (fun ls hl => ?_)
                    refine lv_goto (tgt := 38) hx hb dX7_day_111 (by decide) ?_
                    exact ih_38 (k38 + 1) (((nI 1103515245) * xv) + (nI 12345)) (pv ||| ((nI 1) <<< ((nI k38) &&& 31))) (skv ||| ((nI 1) <<< ((nI k38) &&& 31))) (by omega) hxe (by rw [hpv]; exact (dP_y (x := yv) (by rw [← hxe]; exact c_22))) (by rw [hsv]; exact (dS_y (x := yv) (by rw [← hxe]; exact c_24))) (by omega) _ _ _ V (lv_sub hl [0, 1, 2, 5, 6, 4, 7, 8, 9, 10] rfl)
          exact L_10 _ 0 yv (nI 0) (nI 0) (by omega) rfl rfl rfl (Nat.lt_succ_self _) _ _ _ V (lv_sub hl [0, 1, 2, 3, 4, 5, 6, 7, 8, 9] rfl)
    exact L_8 _ 0 seed (nI 0) nm nu nf3 nf7 nf8 nf10 (by omega) rfl h_sr rfl (Nat.lt_succ_self _) _ _ _ V (lv_sub hl [0, 1, 2, 3, 4, 5, 6] rfl)
  · have V : gW D T A s [(o, .inr (7, [.ref n0, .ref s0, .ref im, .ref iz, .ref rw, .ref t0, .ref u0, .ref h0, .ref y0, sv])), (n0, .inr (5, [.int (nI nn), .int nm, .int nl, .int no, .int nu, .ref n1, .ref n2, .ref n3, .ref n4, .ref n5, .ref n6, .ref n7, .ref n8, .ref n9, .ref n10])), (n1, .inl (T 0, 10, .inl nf1)), (n2, .inl (T 0, 10, .inl nf2)), (n3, .inl (T 0, 10, .inl nf3)), (n4, .inl (T 0, 10, .inl nf4)), (n5, .inl (T 0, 10, .inl nf5)), (n6, .inl (T 0, 10, .inl nf6)), (n7, .inl (T 0, 10, .inl nf7)), (n8, .inl (T 0, 10, .inl nf8)), (n9, .inl (T 0, 10, .inl nf9)), (n10, .inl (T 0, 10, .inl nf10))] H locs := V _ [0, 0] rfl rfl rfl (by decide +kernel) rfl
    show W p l e _ s m args below meth c H locs _ _ _ (F0 m 7 ls [.int z_5])
    refine lv_istore_n (lv' := [(3, .int z_5), (0, .ref o), (1, .int seed), (2, .int n)]) hx hb dX7_day_7 rfl hl (by decide) rfl (fun ls hl => ?_)
    refine lv_iload_n hx hb dX7_day_8 rfl (lv_at hl 0 rfl) ?_
    refine lv_if_eq (tgt := 14) hx hb dX7_day_9 (by decide) (fun c_25 => ?_) (fun c_25 => ?_)
    · skip
      exact (absurd c_25 (by assumption) : False).elim
    · skip
      refine lv_iload_n hx hb dX7_day_12 rfl (lv_at hl 0 rfl) ?_
      exact g_iret (Qr := (q_x_day_f T fa o seed n n0 s0 im iz rw t0 u0 h0 y0 sv nn nm nl no nu n1 n2 n3 n4 n5 n6 n7 n8 n9 n10 nf1 nf2 nf3 nf4 nf5 nf6 nf7 nf8 nf9 nf10)) hC V ⟨(Nat.le_of_ble_eq_true rfl), (Nat.le_of_ble_eq_true rfl)⟩ ⟨z_5, nm, nu, nf3, nf7, nf8, nf10, rfl, rfl, (day_n (n := nn) (f := fa) (x := seed) (by rw [h_sr.2.1]; exact f_7) f_6).1, (by rw [← (day_n (n := nn) (f := fa) (x := seed) (by rw [h_sr.2.1]; exact f_7) f_6).2]; exact h_sr)⟩ dX7_day_13

/-! ROWS as both have them -/
/-- the row k of the class (h: is it there; z numbers F of the sort so) against the reference's -/
def RW (k : Nat) (h : Int32) (z so : Nat) (F : Nat → Int64) (fq fm : Nat → Int32) (fn : Nat → Int64) : Prop := (h = 0 ∧ fq k = -1) ∨ (¬ h = 0 ∧ fq k = nI so ∧ fm k = nI z ∧ ∀ i, i < z → F i = fn (40 * k + i))
theorem RW_0 {k z so : Nat} {h : Int32} {F fn : Nat → Int64} {fq fm : Nat → Int32} (H : RW k h z so F fq fm fn) (hs : so ≤ 3) : h = 0 ↔ fq k = -1 := by
  rcases H with ⟨a, b⟩ | ⟨a, b, -, -⟩
  · exact ⟨fun _ => b, fun _ => a⟩
  · exact ⟨fun q => absurd q a, fun q => absurd (b.symm.trans q) (m1_ne so (by omega))⟩
theorem RW_y {k z so : Nat} {h : Int32} {F fn : Nat → Int64} {fq fm : Nat → Int32} (H : RW k h z so F fq fm fn) (hh : ¬ h = 0) : fq k = nI so ∧ fm k = nI z ∧ ∀ i, i < z → F i = fn (40 * k + i) := by
  rcases H with ⟨a, -⟩ | ⟨-, b⟩
  · exact absurd a hh
  · exact b
theorem ni_4 : ∀ i j : Fin 4, i ≠ j → ¬ nI i.1 = nI j.1 := by decide +kernel
theorem ni4 {i j : Nat} (hi : i < 4) (hj : j < 4) (h : i ≠ j) : ¬ nI i = nI j := ni_4 ⟨i, hi⟩ ⟨j, hj⟩ (fun e => h (congrArg Fin.val e))
/-- why a row is refused -/
def rowR (fq : Nat → Int32) (row : Int32) : Int32 := if row < 0 ∨ nI 4 ≤ row then -2 else if fq row.toNatClampNeg = -1 then -6 else nI 0
theorem rr_2 {fq : Nat → Int32} {row : Int32} (h : row < 0 ∨ nI 4 ≤ row) : -2 = rowR fq row := by unfold rowR; rw [if_pos h]
theorem rr_6 {fq : Nat → Int32} {row : Int32} {k : Nat} (e : row = nI k) (hk : k < 4) (h : fq k = -1) : -6 = rowR fq row := by
  have h4 := rw_in e hk
  subst e
  unfold rowR; rw [if_neg h4, nI_clamp (by omega), if_pos h]
theorem rr_0 {fq : Nat → Int32} {row : Int32} {k : Nat} (e : row = nI k) (hk : k < 4) (h : ¬ fq k = -1) : rowR fq row = nI 0 := by
  have h4 := rw_in e hk
  subst e
  unfold rowR; rw [if_neg h4, nI_clamp (by omega), if_neg h]
theorem rr_s {fq : Nat → Int32} {row : Int32} {k so : Nat} (e : row = nI k) (hk : k < 4) (h : fq k = nI so) (hs : so ≤ 3) : rowR fq row = nI 0 := rr_0 e hk (fun q => m1_ne so (by omega) (h.symm.trans q))
theorem rr_eq {fq : Nat → Int32} {row a b c d : Int32} (i0 : a = 0 ↔ fq 0 = -1) (i1 : b = 0 ↔ fq 1 = -1) (i2 : c = 0 ↔ fq 2 = -1) (i3 : d = 0 ↔ fq 3 = -1) : rowWhy row a b c d = rowR fq row := by
  by_cases q : row < 0 ∨ nI 4 ≤ row
  · rw [← rr_2 q]; unfold rowWhy; rw [if_pos q]
  · obtain ⟨j, hj, e⟩ := g_idx (n := 4) (by decide) (fun r => q (Or.inl r)) (fun r => q (Or.inr r))
    have e0 : ∀ x, x < 4 → row = nI x → x = j := fun x hx r => by
      by_cases y : x = j
      · exact y
      · exact absurd (r.symm.trans e) (ni4 hx hj y)
    by_cases w : fq j = -1
    · rw [← rr_6 e hj w]; unfold rowWhy; rw [if_neg q, if_pos]
      have : j = 0 ∨ j = 1 ∨ j = 2 ∨ j = 3 := by omega
      rcases this with rfl | rfl | rfl | rfl
      · exact Or.inl ⟨e, i0.mpr w⟩
      · exact Or.inr (Or.inl ⟨e, i1.mpr w⟩)
      · exact Or.inr (Or.inr (Or.inl ⟨e, i2.mpr w⟩))
      · exact Or.inr (Or.inr (Or.inr ⟨e, i3.mpr w⟩))
    · rw [rr_0 e hj w]; unfold rowWhy; rw [if_neg q, if_neg]
      · rfl
      · rintro (⟨r, x⟩ | ⟨r, x⟩ | ⟨r, x⟩ | ⟨r, x⟩)
        · exact w (by rw [← e0 0 (by decide) r]; exact i0.mp x)
        · exact w (by rw [← e0 1 (by decide) r]; exact i1.mp x)
        · exact w (by rw [← e0 2 (by decide) r]; exact i2.mp x)
        · exact w (by rw [← e0 3 (by decide) r]; exact i3.mp x)
/-! numbers -/
def numQ (fq : Nat → Int32) (row so n : Int32) : Nat → Int32 := if numWhy row so n = nI 0 then upd fq row.toNatClampNeg so else fq
def numM (fm : Nat → Int32) (row so n : Int32) : Nat → Int32 := if numWhy row so n = nI 0 then upd fm row.toNatClampNeg n else fm
def numN (fn : Nat → Int64) (row so n : Int32) : Nat → Int64 := if numWhy row so n = nI 0 then (fun j => if 40 * row.toNatClampNeg ≤ j ∧ j < 40 * row.toNatClampNeg + n.toNatClampNeg then 0 else fn j) else fn
theorem nw_n0 {z row so n : Int32} (h : z = numWhy row so n) (hz : ¬ z = nI 0) : ¬ numWhy row so n = nI 0 := fun q => hz (h.trans q)
theorem RN_n {j z so' : Nat} {h row so n : Int32} {F fn : Nat → Int64} {fq fm : Nat → Int32} (w : ¬ numWhy row so n = nI 0) (H : RW j h z so' F fq fm fn) : RW j h z so' F (numQ fq row so n) (numM fm row so n) (numN fn row so n) := by
  unfold numQ numM numN; rw [if_neg w, if_neg w, if_neg w]; exact H
theorem RN_o {j k z so' jn : Nat} {h row so n : Int32} {F fn : Nat → Int64} {fq fm : Nat → Int32} (w : nI 0 = numWhy row so n) (e : row = nI k) (hk : k < 4) (hj : j < 4) (hjk : j ≠ k) (en : n = nI jn) (hn : jn ≤ 40) (hz : z ≤ 40) (H : RW j h z so' F fq fm fn) : RW j h z so' F (numQ fq row so n) (numM fm row so n) (numN fn row so n) := by
  unfold numQ numM numN; rw [if_pos w.symm, if_pos w.symm, if_pos w.symm]
  subst e; subst en
  rw [nI_clamp (by omega), nI_clamp (by omega)]
  unfold RW
  rw [up_other hjk, up_other hjk]
  rcases H with H | ⟨a, b, c, d⟩
  · exact Or.inl H
  · refine Or.inr ⟨a, b, c, fun i hi => ?_⟩
    show F i = if 40 * k ≤ 40 * j + i ∧ 40 * j + i < 40 * k + jn then 0 else fn (40 * j + i)
    rw [if_neg (by omega)]; exact d i hi
theorem RN_y {k jn js : Nat} {row so n : Int32} {F fn : Nat → Int64} {fq fm : Nat → Int32} (w : nI 0 = numWhy row so n) (e : row = nI k) (hk : k < 4) (en : n = nI jn) (hn : jn ≤ 40) (es : so = nI js) (hF : ∀ i, i < 40 → F i = 0) : RW k (nI 1) jn js F (numQ fq row so n) (numM fm row so n) (numN fn row so n) := by
  unfold numQ numM numN; rw [if_pos w.symm, if_pos w.symm, if_pos w.symm]
  subst e; subst en; subst es
  rw [nI_clamp (by omega), nI_clamp (by omega)]
  refine Or.inr ⟨by decide +kernel, up_same, up_same, fun i hi => ?_⟩
  show F i = if 40 * k ≤ 40 * k + i ∧ 40 * k + i < 40 * k + jn then 0 else fn (40 * k + i)
  rw [if_pos (by omega)]; exact hF i (by omega)
theorem NM_n {z row so n : Int32} {fn : Nat → Int64} {fq fm : Nat → Int32} (h : z = numWhy row so n) (hz : ¬ z = nI 0) : fq = numQ fq row so n ∧ fm = numM fm row so n ∧ fn = numN fn row so n := by
  have w := nw_n0 h hz
  unfold numQ numM numN; rw [if_neg w, if_neg w, if_neg w]; exact ⟨rfl, rfl, rfl⟩
theorem NM_y {k jn js : Nat} {row so n : Int32} {fn G : Nat → Int64} {fq fm : Nat → Int32} (w : nI 0 = numWhy row so n) (e : row = nI k) (hk : k ≤ 3) (es : so = nI js) (en : n = nI jn) (hn : jn ≤ 40) (h1 : ∀ j, j < jn → G (40 * k + j) = 0) (h2 : ∀ j, (j < 40 * k ∨ 40 * k + jn ≤ j) → G j = fn j) : upd fq k (nI js) = numQ fq row so n ∧ upd fm k (nI jn) = numM fm row so n ∧ G = numN fn row so n := by
  unfold numQ numM numN; rw [if_pos w.symm, if_pos w.symm, if_pos w.symm]
  subst e; subst en; subst es
  rw [nI_clamp (by omega), nI_clamp (by omega)]
  refine ⟨rfl, rfl, funext (fun j => ?_)⟩
  by_cases c : 40 * k ≤ j ∧ j < 40 * k + jn
  · rw [if_pos c]
    have := h1 (j - 40 * k) (by omega)
    rw [show 40 * k + (j - 40 * k) = j by omega] at this; exact this
  · rw [if_neg c]; exact h2 j (by omega)
theorem z64 : (nI 0).toInt64 = 0 := by decide +kernel
/-! write -/
def wrA (fq fm : Nat → Int32) (row i : Int32) (v : Int64) : Int64 := if row < 0 ∨ nI 4 ≤ row then -2 else if fq row.toNatClampNeg = -1 then -6 else if i < nI 0 ∨ fm row.toNatClampNeg - nI 1 < i then -7 else cutv (fq row.toNatClampNeg).toNatClampNeg v
def wrN (fn : Nat → Int64) (fq fm : Nat → Int32) (row i : Int32) (v : Int64) : Nat → Int64 := if rowR fq row = nI 0 ∧ ¬ (i < nI 0 ∨ fm row.toNatClampNeg - nI 1 < i) then vp_updL fn (40 * row.toNatClampNeg + i.toNatClampNeg) (cutv (fq row.toNatClampNeg).toNatClampNeg v) else fn
theorem m2_0 : ¬ (-2 : Int32) = nI 0 := by decide +kernel
theorem m6_0 : ¬ (-6 : Int32) = nI 0 := by decide +kernel
theorem m2_64 : (-2 : Int32).toInt64 = -2 := by decide +kernel
theorem m6_64 : (-6 : Int32).toInt64 = -6 := by decide +kernel
theorem wr_2 {fq fm : Nat → Int32} {fn : Nat → Int64} {row i : Int32} {v : Int64} (h : row < 0 ∨ nI 4 ≤ row) : -2 = wrA fq fm row i v ∧ fn = wrN fn fq fm row i v := by
  have q : ¬ rowR fq row = nI 0 := by rw [← rr_2 h]; exact m2_0
  unfold wrA wrN; rw [if_pos h, if_neg (fun r => q r.1)]; exact ⟨rfl, rfl⟩
theorem wr_6 {fq fm : Nat → Int32} {fn : Nat → Int64} {row i : Int32} {v : Int64} {k : Nat} (e : row = nI k) (hk : k < 4) (h : fq k = -1) : -6 = wrA fq fm row i v ∧ fn = wrN fn fq fm row i v := by
  have q : ¬ rowR fq row = nI 0 := by rw [← rr_6 e hk h]; exact m6_0
  have h4 := rw_in e hk
  unfold wrA wrN; rw [if_neg h4]
  subst e
  rw [nI_clamp (by omega), if_pos h, if_neg (fun r => q r.1)]; exact ⟨rfl, rfl⟩
theorem wr_r {fq fm : Nat → Int32} {fn : Nat → Int64} {row i z : Int32} {v : Int64} (h : z = rowR fq row) (hz : ¬ z = 0) : z.toInt64 = wrA fq fm row i v ∧ fn = wrN fn fq fm row i v := by
  by_cases q : row < 0 ∨ nI 4 ≤ row
  · have e : z = -2 := by rw [h, ← rr_2 q]
    rw [e, m2_64]; exact wr_2 q
  · obtain ⟨j, hj, e⟩ := g_idx (n := 4) (by decide) (fun r => q (Or.inl r)) (fun r => q (Or.inr r))
    by_cases w : fq j = -1
    · have e2 : z = -6 := by rw [h, ← rr_6 e hj w]
      rw [e2, m6_64]; exact wr_6 e hj w
    · exact absurd (h.trans (rr_0 e hj w)) hz
theorem wr_7 {fq fm : Nat → Int32} {fn : Nat → Int64} {row i : Int32} {v : Int64} {k z : Nat} (e : row = nI k) (hk : k < 4) (h0 : ¬ fq k = -1) (ez : fm k = nI z) (hi : i < nI 0 ∨ nI z - nI 1 < i) : -7 = wrA fq fm row i v ∧ fn = wrN fn fq fm row i v := by
  have h4 := rw_in e hk
  unfold wrA wrN; rw [if_neg h4]
  subst e
  rw [nI_clamp (by omega), if_neg h0, ez, if_pos hi, if_neg (fun r => r.2 hi)]; exact ⟨rfl, rfl⟩
theorem wr_y {fq fm : Nat → Int32} {fn : Nat → Int64} {row i : Int32} {v : Int64} {k z so ji : Nat} (e : row = nI k) (hk : k < 4) (hq : fq k = nI so) (hs : so ≤ 3) (ez : fm k = nI z) (h1 : ¬ i < nI 0) (h2 : ¬ nI z - nI 1 < i) (ei : i = nI ji) (hj : ji < 40) : cutv so v = wrA fq fm row i v ∧ vp_updL fn (40 * k + ji) (cutv so v) = wrN fn fq fm row i v := by
  have h4 := rw_in e hk
  have q := rr_s e hk hq hs
  unfold wrA wrN; rw [if_neg h4]
  have e' := e
  subst e
  have h12 : ¬ (i < nI 0 ∨ nI z - nI 1 < i) := fun r => r.elim h1 h2
  rw [nI_clamp (by omega), if_neg (fun r => m1_ne so (by omega) (hq.symm.trans r)), ez, if_neg h12, if_pos ⟨q, h12⟩, hq, nI_clamp (by omega), ei, nI_clamp (by omega)]
  exact ⟨rfl, rfl⟩
theorem RW_ws {k z so ji : Nat} {h : Int32} {x : Int64} {F fn : Nat → Int64} {fq fm : Nat → Int32} (H : RW k h z so F fq fm fn) : RW k h z so (vp_updL F ji x) fq fm (vp_updL fn (40 * k + ji) x) := by
  rcases H with H | ⟨a, b, c, d⟩
  · exact Or.inl H
  · refine Or.inr ⟨a, b, c, fun i hi => ?_⟩
    by_cases q : i = ji
    · subst q; rw [upL_same, upL_same]
    · rw [upL_other q, upL_other (by omega)]; exact d i hi
theorem RW_wo {j k z so ji : Nat} {h : Int32} {x : Int64} {F fn : Nat → Int64} {fq fm : Nat → Int32} (H : RW j h z so F fq fm fn) (hjk : j ≠ k) (hz : z ≤ 40) (hj : ji < 40) : RW j h z so F fq fm (vp_updL fn (40 * k + ji) x) := by
  rcases H with H | ⟨a, b, c, d⟩
  · exact Or.inl H
  · refine Or.inr ⟨a, b, c, fun i hi => ?_⟩
    rw [upL_other (by omega)]; exact d i hi
/-! copy -/
def cpA (n : Nat) (fq fm : Nat → Int32) (row : Int32) : Int32 := if rowR fq row = nI 0 then (if fm row.toNatClampNeg < nI n then -7 else nI n) else rowR fq row
def cpN (n : Nat) (f : Nat → Int32) (fn : Nat → Int64) (fq fm : Nat → Int32) (row : Int32) : Nat → Int64 := if rowR fq row = nI 0 ∧ ¬ fm row.toNatClampNeg < nI n then (fun j => if 40 * row.toNatClampNeg ≤ j ∧ j < 40 * row.toNatClampNeg + n then cutv (fq row.toNatClampNeg).toNatClampNeg (f (24 + (j - 40 * row.toNatClampNeg))).toInt64 else fn j) else fn
theorem cp_r {n : Nat} {f : Nat → Int32} {fn : Nat → Int64} {fq fm : Nat → Int32} {row z : Int32} (h : z = rowR fq row) (hz : ¬ z = 0) : z = cpA n fq fm row ∧ fn = cpN n f fn fq fm row := by
  have q : ¬ rowR fq row = nI 0 := fun r => hz (h.trans r)
  unfold cpA cpN; rw [if_neg q, if_neg (fun r => q r.1)]; exact ⟨h, rfl⟩
theorem cp_7 {n k z : Nat} {f : Nat → Int32} {fn : Nat → Int64} {fq fm : Nat → Int32} {row : Int32} (h : rowR fq row = nI 0) (e : row = nI k) (hk : k < 4) (ez : fm k = nI z) (h40 : z ≤ 40) (hn : n ≤ 10) (hzn : z < n) : -7 = cpA n fq fm row ∧ fn = cpN n f fn fq fm row := by
  have hz : nI z < nI n := (nI_ltI (by omega) (by omega)).mpr hzn
  unfold cpA cpN; rw [if_pos h]
  subst e
  rw [nI_clamp (by omega), ez, if_pos hz, if_neg (fun r => r.2 hz)]; exact ⟨rfl, rfl⟩
theorem cp_y {n k z so : Nat} {f : Nat → Int32} {fn G : Nat → Int64} {fq fm : Nat → Int32} {row : Int32} (h : rowR fq row = nI 0) (e : row = nI k) (hk : k < 4) (hq : fq k = nI so) (hs : so ≤ 3) (ez : fm k = nI z) (h40 : z ≤ 40) (h10 : n ≤ 10) (hzn : n ≤ z) (h1 : ∀ j, j < n → G (40 * k + j) = cutv so (f (24 + j)).toInt64) (h2 : ∀ j, (j < 40 * k ∨ 40 * k + n ≤ j) → G j = fn j) : nI n = cpA n fq fm row ∧ G = cpN n f fn fq fm row := by
  have hz : ¬ nI z < nI n := fun q => by have := b_lt (by omega) (by omega) q; omega
  unfold cpA cpN; rw [if_pos h]
  have h' := h
  subst e
  rw [nI_clamp (by omega), ez, if_neg hz, if_pos ⟨h', hz⟩, hq, nI_clamp (by omega)]
  refine ⟨rfl, funext (fun j => ?_)⟩
  by_cases c : 40 * k ≤ j ∧ j < 40 * k + n
  · rw [if_pos c]
    have := h1 (j - 40 * k) (by omega)
    rw [show 40 * k + (j - 40 * k) = j by omega] at this; exact this
  · rw [if_neg c]; exact h2 j (by omega)
theorem cp_at {n k z so : Nat} {f : Nat → Int32} {fn : Nat → Int64} {fq fm : Nat → Int32} {row : Int32} (h : rowR fq row = nI 0) (e : row = nI k) (hk : k < 4) (hq : fq k = nI so) (hs : so ≤ 3) (ez : fm k = nI z) (h40 : z ≤ 40) (h10 : n ≤ 10) (hzn : n ≤ z) (j : Nat) : cpN n f fn fq fm row j = if 40 * k ≤ j ∧ j < 40 * k + n then cutv so (f (24 + (j - 40 * k))).toInt64 else fn j := by
  have hz : ¬ nI z < nI n := fun q => by have := b_lt (by omega) (by omega) q; omega
  unfold cpN
  have h' := h
  subst e
  rw [nI_clamp (by omega), ez, if_pos ⟨h', hz⟩, hq, nI_clamp (by omega)]
theorem RC_s {n k z so : Nat} {hh : Int32} {f : Nat → Int32} {F fn G : Nat → Int64} {fq fm : Nat → Int32} {row : Int32} (h : rowR fq row = nI 0) (e : row = nI k) (hk : k < 4) (hq : fq k = nI so) (hs : so ≤ 3) (ez : fm k = nI z) (h40 : z ≤ 40) (h10 : n ≤ 10) (hzn : n ≤ z) (H : RW k hh z so F fq fm fn) (g1 : ∀ i, i < n → G i = cutv so (f (24 + i)).toInt64) (g2 : ∀ i, n ≤ i → G i = F i) : RW k hh z so G fq fm (cpN n f fn fq fm row) := by
  rcases H with H | ⟨a, b, c, d⟩
  · exact Or.inl H
  · refine Or.inr ⟨a, b, c, fun i hi => ?_⟩
    rw [cp_at h e hk hq hs ez h40 h10 hzn]
    by_cases q : i < n
    · rw [if_pos (by omega), show 40 * k + i - 40 * k = i by omega]; exact g1 i q
    · rw [if_neg (by omega), g2 i (by omega)]; exact d i hi
theorem RC_o {n j k z z' so so' : Nat} {hh : Int32} {f : Nat → Int32} {F fn : Nat → Int64} {fq fm : Nat → Int32} {row : Int32} (h : rowR fq row = nI 0) (e : row = nI k) (hk : k < 4) (hq : fq k = nI so) (hs : so ≤ 3) (ez : fm k = nI z) (h40 : z ≤ 40) (h10 : n ≤ 10) (hzn : n ≤ z) (hjk : j ≠ k) (hz' : z' ≤ 40) (H : RW j hh z' so' F fq fm fn) : RW j hh z' so' F fq fm (cpN n f fn fq fm row) := by
  rcases H with H | ⟨a, b, c, d⟩
  · exact Or.inl H
  · refine Or.inr ⟨a, b, c, fun i hi => ?_⟩
    rw [cp_at h e hk hq hs ez h40 h10 hzn, if_neg (by omega)]; exact d i hi
/-! MINUTES told in a row -/
abbrev setL (n : Nat) (v : Int64) : Prop := ¬ (v < (nI 0).toInt64 ∨ (nI (2 ^ n - 1)).toInt64 < v)
def whL (n : Nat) (f : Nat → Int32) (R : Nat → Int64) (z k : Nat) : Int32 := if setL n (R k) then (if z ≤ k + 1 then nI 3 else if setL n (R (k + 1)) then (if R k &&& R (k + 1) = (nI 0).toInt64 then (if f 1 = nI 9999 then nI 4 else nI 0) else nI 2) else nI 1) else nI 1
theorem wl_1 {n z k : Nat} {f : Nat → Int32} {R : Nat → Int64} {x : Int64} (e : x = R k) (h : ¬ setL n x) : nI 1 = whL n f R z k := by subst e; unfold whL; rw [if_neg h]
theorem wl_3 {n z k : Nat} {f : Nat → Int32} {R : Nat → Int64} {x : Int64} (e : x = R k) (h : setL n x) (hz : z ≤ k + 1) : nI 3 = whL n f R z k := by subst e; unfold whL; rw [if_pos h, if_pos hz]
theorem wl_1b {n z k : Nat} {f : Nat → Int32} {R : Nat → Int64} {x y : Int64} (e : x = R k) (h : setL n x) (hz : ¬ z ≤ k + 1) (e2 : y = R (k + 1)) (h2 : ¬ setL n y) : nI 1 = whL n f R z k := by subst e; subst e2; unfold whL; rw [if_pos h, if_neg hz, if_neg h2]
theorem wl_2 {n z k : Nat} {f : Nat → Int32} {R : Nat → Int64} {x y : Int64} (e : x = R k) (h : setL n x) (hz : ¬ z ≤ k + 1) (e2 : y = R (k + 1)) (h2 : setL n y) (h3 : ¬ x &&& y = (nI 0).toInt64) : nI 2 = whL n f R z k := by subst e; subst e2; unfold whL; rw [if_pos h, if_neg hz, if_pos h2, if_neg h3]
theorem wl_4 {n z k : Nat} {f : Nat → Int32} {R : Nat → Int64} {x y : Int64} (e : x = R k) (h : setL n x) (hz : ¬ z ≤ k + 1) (e2 : y = R (k + 1)) (h2 : setL n y) (h3 : x &&& y = (nI 0).toInt64) (h4 : f 1 = nI 9999) : nI 4 = whL n f R z k := by subst e; subst e2; unfold whL; rw [if_pos h, if_neg hz, if_pos h2, if_pos h3, if_pos h4]
theorem wl_0 {n z k : Nat} {f : Nat → Int32} {R : Nat → Int64} {x y : Int64} (e : x = R k) (h : setL n x) (hz : ¬ z ≤ k + 1) (e2 : y = R (k + 1)) (h2 : setL n y) (h3 : x &&& y = (nI 0).toInt64) (h4 : ¬ f 1 = nI 9999) : nI 0 = whL n f R z k := by subst e; subst e2; unfold whL; rw [if_pos h, if_neg hz, if_pos h2, if_pos h3, if_neg h4]
theorem wl_9 {n z k : Nat} {f : Nat → Int32} {R : Nat → Int64} (h : nI 0 = whL n f R z k) : ¬ f 1 = nI 9999 := by
  intro q
  have n1 : ¬ (nI 0 : Int32) = nI 1 := by decide +kernel
  have n2 : ¬ (nI 0 : Int32) = nI 2 := by decide +kernel
  have n3 : ¬ (nI 0 : Int32) = nI 3 := by decide +kernel
  have n4 : ¬ (nI 0 : Int32) = nI 4 := by decide +kernel
  unfold whL at h
  rw [if_pos q] at h
  split at h
  · split at h
    · exact n3 h
    · split at h
      · split at h
        · exact n4 h
        · exact n2 h
      · exact n1 h
  · exact n1 h
/-- the numbers behind the MINUTES of the first k numbers; the strokes that counted; the PIECES that were burnt -/
def tlI (n : Nat) (f : Nat → Int32) (R : Nat → Int64) : Nat → Nat → Int32
  | 0 => f
  | 1 => f
  | k + 2 => goF n (tlI n f R k) (R k).toInt32 (R (k + 1)).toInt32 (-1) (nI 0)
def tlC (n : Nat) (f : Nat → Int32) (R : Nat → Int64) : Nat → Int32
  | 0 => nI 0
  | 1 => nI 0
  | k + 2 => tlC n f R k + goC (tlI n f R k) (R (k + 1)).toInt32 n
def tlB (n : Nat) (f : Nat → Int32) (R : Nat → Int64) : Nat → Int32
  | 0 => nI 0
  | 1 => nI 0
  | k + 2 => tlB n f R k + goB n (tlI n f R k) (R k).toInt32 (R (k + 1)).toInt32 (-1) (nI 0) n
/-- how far they can be done, and why no further -/
def tlE (n : Nat) (f : Nat → Int32) (R : Nat → Int64) (z : Nat) : Nat → Nat → Nat × Int32
  | 0, k => (k, nI 0)
  | 1, k => (k, nI 0)
  | fu + 2, k => if k < z then (if whL n (tlI n f R k) R z k = nI 0 then tlE n f R z fu (k + 2) else (k, whL n (tlI n f R k) R z k)) else (k, nI 0)
theorem te_s {n z k : Nat} {f : Nat → Int32} {R : Nat → Int64} (hk : k < z) (hz : z ≤ 40) (h : nI 0 = whL n (tlI n f R k) R z k) : tlE n f R z (42 - k) k = tlE n f R z (42 - (k + 2)) (k + 2) := by
  rw [show 42 - k = (42 - (k + 2)) + 2 by omega]
  show (if k < z then (if whL n (tlI n f R k) R z k = nI 0 then tlE n f R z (42 - (k + 2)) (k + 2) else _) else _) = _
  rw [if_pos hk, if_pos h.symm]
theorem te_e {n z k : Nat} {f : Nat → Int32} {R : Nat → Int64} (hk : ¬ k < z) : tlE n f R z (42 - k) k = (k, nI 0) := by
  generalize 42 - k = fu
  match fu with
  | 0 => rfl
  | 1 => rfl
  | fu + 2 =>
    show (if k < z then _ else _) = _
    rw [if_neg hk]
theorem te_w {n z k : Nat} {f : Nat → Int32} {R : Nat → Int64} {w : Int32} (hk : k < z) (hz : z ≤ 40) (h : w = whL n (tlI n f R k) R z k) (hw : ¬ w = 0) : tlE n f R z (42 - k) k = (k, w) := by
  rw [show 42 - k = (40 - k) + 2 by omega]
  show (if k < z then (if whL n (tlI n f R k) R z k = nI 0 then _ else (k, whL n (tlI n f R k) R z k)) else _) = _
  rw [if_pos hk, ← h, if_neg (show ¬ w = nI 0 from hw)]
theorem tlI_mi {n : Nat} {f : Nat → Int32} {R : Nat → Int64} (h : MI n f) : ∀ k, MI n (tlI n f R k)
  | 0 => h
  | 1 => h
  | k + 2 => MI_go (tlI_mi h k)
theorem go_1 {n : Nat} {f : Nat → Int32} {pl sk fi mr : Int32} : goF n f pl sk fi mr 1 = f 1 + nI 1 := by unfold goF; rw [up_same]
theorem mn_go {n : Nat} {f : Nat → Int32} {pl sk fi mr : Int32} (hb : bd (f 1) 10000) (h : ¬ f 1 = nI 9999) : bd (goF n f pl sk fi mr 1) 10000 := by
  rw [go_1]
  obtain ⟨j, hj, e⟩ := hb
  rw [e, nI_add]
  have : j ≠ 9999 := fun q => h (by rw [e, q])
  exact bd_nI (by omega)
def perE (n : Nat) (f fm : Nat → Int32) (fn : Nat → Int64) (row : Int32) : Nat × Int32 := tlE n f (fun i => fn (40 * row.toNatClampNeg + i)) (fm row.toNatClampNeg).toNatClampNeg 42 0
def perA (n : Nat) (f fq fm : Nat → Int32) (fn : Nat → Int64) (row : Int32) : Int32 := if rowR fq row = nI 0 then nI ((perE n f fm fn row).1 / 2) else rowR fq row
def perF (n : Nat) (f fq fm : Nat → Int32) (fn : Nat → Int64) (row : Int32) : Nat → Int32 := if rowR fq row = nI 0 then tlI n f (fun i => fn (40 * row.toNatClampNeg + i)) (perE n f fm fn row).1 else f
theorem per_n {n : Nat} {f fq fm : Nat → Int32} {fn : Nat → Int64} {row z : Int32} (h : z = rowR fq row) (hz : ¬ z = 0) : z = perA n f fq fm fn row ∧ f = perF n f fq fm fn row := by
  have q : ¬ rowR fq row = nI 0 := fun r => hz (h.trans r)
  unfold perA perF; rw [if_neg q, if_neg q]; exact ⟨h, rfl⟩
theorem per_e {n k z : Nat} {f fm : Nat → Int32} {fn : Nat → Int64} {row : Int32} (e : row = nI k) (hk : k < 4) (ez : fm k = nI z) (hz : z ≤ 40) : perE n f fm fn row = tlE n f (fun i => fn (40 * k + i)) z 42 0 := by
  unfold perE; subst e; rw [nI_clamp (by omega), ez, nI_clamp (by omega)]
theorem per_y {n k z : Nat} {f fq fm : Nat → Int32} {fn : Nat → Int64} {row : Int32} (h : rowR fq row = nI 0) (e : row = nI k) (hk : k < 4) (ez : fm k = nI z) (hz : z ≤ 40) : nI ((tlE n f (fun i => fn (40 * k + i)) z 42 0).1 / 2) = perA n f fq fm fn row ∧ tlI n f (fun i => fn (40 * k + i)) (tlE n f (fun i => fn (40 * k + i)) z 42 0).1 = perF n f fq fm fn row := by
  have e1 := per_e (n := n) (f := f) (fn := fn) e hk ez hz
  unfold perA perF; rw [if_pos h, if_pos h, e1]
  subst e
  rw [nI_clamp (by omega)]; exact ⟨rfl, rfl⟩
theorem uL_bk {B k : Nat} {G : Nat → Int64} {x : Int64} {p : Nat → Int64} (h : ∀ j, j < k → G (B + j) = p j) (hx : x = p k) : ∀ j, j < k + 1 → vp_updL G (B + k) x (B + j) = p j := by
  intro j hj
  by_cases c : j = k
  · subst c; rw [upL_same]; exact hx
  · rw [upL_other (by omega)]; exact h j (by omega)
theorem mc_0 {q : Int32} {v : Int64} (e : q = 0) : v.toInt32.toInt8.toInt32.toInt64 = cutv q.toNatClampNeg v := by
  rw [e, show (0 : Int32).toNatClampNeg = 0 by decide +kernel]; rfl
theorem mc_1 {q : Int32} {v : Int64} (e : q = nI 1) : v.toInt32.toInt16.toInt32.toInt64 = cutv q.toNatClampNeg v := by rw [e, nI_clamp (by decide)]; rfl
theorem mc_2 {q : Int32} {v : Int64} (e : q = nI 2) : v.toInt32.toInt64 = cutv q.toNatClampNeg v := by rw [e, nI_clamp (by decide)]; rfl
theorem mc_3 {q : Int32} {v : Int64} (h : bd q 4) (h0 : ¬ q = 0) (h1 : ¬ q = nI 1) (h2 : ¬ q = nI 2) : v = cutv q.toNatClampNeg v := by
  obtain ⟨j, hj, rfl⟩ := h
  have : j = 0 ∨ j = 1 ∨ j = 2 ∨ j = 3 := by omega
  rcases this with rfl | rfl | rfl | rfl
  · exact absurd rfl h0
  · exact absurd rfl h1
  · exact absurd rfl h2
  · rw [nI_clamp (by decide)]; rfl
theorem m3_0 : ¬ (-3 : Int32) = nI 0 := by decide +kernel

def q_x_numbers_f (T : Nat → ClassId) (fq : Nat → Int32) (fm : Nat → Int32) (fn : Nat → Int64) (o : Nat) (row : Int32) (so : Int32) (n : Int32) (n0 : Nat) (s0 : Nat) (im : Nat) (iz : Nat) (rw : Nat) (t0 : Nat) (u0 : Nat) (h0 : Nat) (y0 : Nat) (sv : Value) (ra0 : Nat) (rb0 : Nat) (rc0 : Nat) (rd0 : Nat) (rah : Int32) (raz : Nat) (ra1 : Nat) (ras : Nat) (raf : Nat → Int64) (rbh : Int32) (rbz : Nat) (rb1 : Nat) (rbs : Nat) (rbf : Nat → Int64) (rch : Int32) (rcz : Nat) (rc1 : Nat) (rcs : Nat) (rcf : Nat → Int64) (rdh : Int32) (rdz : Nat) (rd1 : Nat) (rds : Nat) (rdf : Nat → Int64) : Option Value → va_W → Prop := fun rr ww => (∃ (z : Int32) (raH : Int32) (raZ : Nat) (raS : Nat) (raF : Nat → Int64) (rbH : Int32) (rbZ : Nat) (rbS : Nat) (rbF : Nat → Int64) (rcH : Int32) (rcZ : Nat) (rcS : Nat) (rcF : Nat → Int64) (rdH : Int32) (rdZ : Nat) (rdS : Nat) (rdF : Nat → Int64), rr = some (.int z) ∧ ww = [(o, .inr (7, [.ref n0, .ref s0, .ref im, .ref iz, .ref rw, .ref t0, .ref u0, .ref h0, .ref y0, sv])), (rw, .inl (T 5, 4, .inr (.inr (.inr (.inr (va_up (va_up (va_up (va_up (fun _ => none) 0 (some ra0)) 1 (some rb0)) 2 (some rc0)) 3 (some rd0))))))), (ra0, .inr (1, [.int raH, .int (nI raZ), .ref ra1, .int (nI raS)])), (ra1, .inl (T 1, 40, .inr (.inl raF))), (rb0, .inr (1, [.int rbH, .int (nI rbZ), .ref rb1, .int (nI rbS)])), (rb1, .inl (T 1, 40, .inr (.inl rbF))), (rc0, .inr (1, [.int rcH, .int (nI rcZ), .ref rc1, .int (nI rcS)])), (rc1, .inl (T 1, 40, .inr (.inl rcF))), (rd0, .inr (1, [.int rdH, .int (nI rdZ), .ref rd1, .int (nI rdS)])), (rd1, .inl (T 1, 40, .inr (.inl rdF)))] ∧ z = numWhy row so n ∧ raZ ≤ 40 ∧ raS ≤ 3 ∧ rbZ ≤ 40 ∧ rbS ≤ 3 ∧ rcZ ≤ 40 ∧ rcS ≤ 3 ∧ rdZ ≤ 40 ∧ rdS ≤ 3 ∧ RW 0 raH raZ raS raF (numQ fq row so n) (numM fm row so n) (numN fn row so n) ∧ RW 1 rbH rbZ rbS rbF (numQ fq row so n) (numM fm row so n) (numN fn row so n) ∧ RW 2 rcH rcZ rcS rcF (numQ fq row so n) (numM fm row so n) (numN fn row so n) ∧ RW 3 rdH rdZ rdS rdF (numQ fq row so n) (numM fm row so n) (numN fn row so n))
set_option maxHeartbeats 4000000 in
set_option maxRecDepth 100000 in
theorem x_numbers_f (l : Launch) (D : va_G) (T : Nat → ClassId) (fq : Nat → Int32) (fm : Nat → Int32) (fn : Nat → Int64) (o : Nat) (row : Int32) (so : Int32) (n : Int32) (n0 : Nat) (s0 : Nat) (im : Nat) (iz : Nat) (rw : Nat) (t0 : Nat) (u0 : Nat) (h0 : Nat) (y0 : Nat) (sv : Value) (ra0 : Nat) (rb0 : Nat) (rc0 : Nat) (rd0 : Nat) (rah : Int32) (raz : Nat) (ra1 : Nat) (ras : Nat) (raf : Nat → Int64) (rbh : Int32) (rbz : Nat) (rb1 : Nat) (rbs : Nat) (rbf : Nat → Int64) (rch : Int32) (rcz : Nat) (rc1 : Nat) (rcs : Nat) (rcf : Nat → Int64) (rdh : Int32) (rdz : Nat) (rd1 : Nat) (rds : Nat) (rdf : Nat → Int64) (h_zra : raz ≤ 40) (h_zrb : rbz ≤ 40) (h_zrc : rcz ≤ 40) (h_zrd : rdz ≤ 40) (h_sra : ras ≤ 3) (h_srb : rbs ≤ 3) (h_src : rcs ≤ 3) (h_srd : rds ≤ 3) (h_r0 : RW 0 rah raz ras raf fq fm fn) (h_r1 : RW 1 rbh rbz rbs rbf fq fm fn) (h_r2 : RW 2 rch rcz rcs rcf fq fm fn) (h_r3 : RW 3 rdh rdz rds rdf fq fm fn) : Ct l yX7_numbers cX7_numbers 4 (some .int) 2 0 0 D T [.ref o, .int row, .int so, .int n] [(o, .inr (7, [.ref n0, .ref s0, .ref im, .ref iz, .ref rw, .ref t0, .ref u0, .ref h0, .ref y0, sv])), (rw, .inl (T 5, 4, .inr (.inr (.inr (.inr (va_up (va_up (va_up (va_up (fun _ => none) 0 (some ra0)) 1 (some rb0)) 2 (some rc0)) 3 (some rd0))))))), (ra0, .inr (1, [.int rah, .int (nI raz), .ref ra1, .int (nI ras)])), (ra1, .inl (T 1, 40, .inr (.inl raf))), (rb0, .inr (1, [.int rbh, .int (nI rbz), .ref rb1, .int (nI rbs)])), (rb1, .inl (T 1, 40, .inr (.inl rbf))), (rc0, .inr (1, [.int rch, .int (nI rcz), .ref rc1, .int (nI rcs)])), (rc1, .inl (T 1, 40, .inr (.inl rcf))), (rd0, .inr (1, [.int rdh, .int (nI rdz), .ref rd1, .int (nI rds)])), (rd1, .inl (T 1, 40, .inr (.inl rdf)))] (q_x_numbers_f T fq fm fn o row so n n0 s0 im iz rw t0 u0 h0 y0 sv ra0 rb0 rc0 rd0 rah raz ra1 ras raf rbh rbz rb1 rbs rbf rch rcz rc1 rcs rcf rdh rdz rd1 rds rdf) := by
  refine Ct.of (cc := cX7_numbers) (maxL := 4) (ret := (some .int)) (by decide) (Nat.le_of_ble_eq_true rfl) ?_
  intro p e s m args below meth c A ls hC hnm V hl
  obtain ⟨hx, hb, hr, hml, hown, hts, hlocks⟩ := id hC
  generalize hH : s.heap = H at V ⊢
  clear hH
  have hl : lv_has ls 4 [(0, .ref o), (1, .int row), (2, .int so), (3, .int n)] := hl
  generalize hlo : ([] : List Loc) = locs at V ⊢
  clear hlo
  refine lv_iload_n hx hb dX7_numbers_0 rfl (lv_at hl 1 rfl) ?_
  refine g_callSU (nA := 1) hC V hl.1 (c_isRow l D T row) w_501 w_502 w_2 w_503 (by decide +kernel) rfl ⟨(Nat.le_of_ble_eq_true rfl), (Nat.le_of_ble_eq_true rfl)⟩ [] rfl rfl (Nat.le_of_ble_eq_true rfl) dX7_numbers_1 ⟨(Nat.le_of_ble_eq_true rfl), (Nat.le_of_ble_eq_true rfl)⟩ rfl (fun r w1 H locs hQ V => ?_)
  rcases hQ with ⟨rfl, rfl, f_1, f_2⟩ | ⟨rfl, rfl, f_3⟩
  · have V : gW D T A s [(o, .inr (7, [.ref n0, .ref s0, .ref im, .ref iz, .ref rw, .ref t0, .ref u0, .ref h0, .ref y0, sv])), (rw, .inl (T 5, 4, .inr (.inr (.inr (.inr (va_up (va_up (va_up (va_up (fun _ => none) 0 (some ra0)) 1 (some rb0)) 2 (some rc0)) 3 (some rd0))))))), (ra0, .inr (1, [.int rah, .int (nI raz), .ref ra1, .int (nI ras)])), (ra1, .inl (T 1, 40, .inr (.inl raf))), (rb0, .inr (1, [.int rbh, .int (nI rbz), .ref rb1, .int (nI rbs)])), (rb1, .inl (T 1, 40, .inr (.inl rbf))), (rc0, .inr (1, [.int rch, .int (nI rcz), .ref rc1, .int (nI rcs)])), (rc1, .inl (T 1, 40, .inr (.inl rcf))), (rd0, .inr (1, [.int rdh, .int (nI rdz), .ref rd1, .int (nI rds)])), (rd1, .inl (T 1, 40, .inr (.inl rdf)))] H locs := V _ [] rfl rfl rfl (by decide +kernel) rfl
    show W p l e _ s m args below meth c H locs _ _ _ (F0 m 4 ls [.int (nI 1)])
    refine lv_if_eq (tgt := 16) hx hb dX7_numbers_4 (by decide) (fun c => absurd (show (nI 1) = 0 from c) (by decide +kernel)) (fun _ => ?_)
    refine lv_iload_n hx hb dX7_numbers_7 rfl (lv_at hl 2 rfl) ?_
    refine lv_iconst (v := (nI 0)) hx hb dX7_numbers_8 (by decide +kernel) ?_
    refine lv_iconst (v := (nI 3)) hx hb dX7_numbers_9 (by decide +kernel) ?_
    refine g_callSU (nA := 3) hC V hl.1 (c_isWithin l D T so (nI 0) (nI 3)) w_292 w_293 w_2 w_294 (by decide +kernel) rfl ⟨(Nat.le_of_ble_eq_true rfl), (Nat.le_of_ble_eq_true rfl)⟩ [] rfl rfl (Nat.le_of_ble_eq_true rfl) dX7_numbers_10 ⟨(Nat.le_of_ble_eq_true rfl), (Nat.le_of_ble_eq_true rfl)⟩ rfl (fun r w1 H locs hQ V => ?_)
    rcases hQ with ⟨rfl, rfl, f_4, f_5⟩ | ⟨rfl, rfl, f_6⟩
    · have V : gW D T A s [(o, .inr (7, [.ref n0, .ref s0, .ref im, .ref iz, .ref rw, .ref t0, .ref u0, .ref h0, .ref y0, sv])), (rw, .inl (T 5, 4, .inr (.inr (.inr (.inr (va_up (va_up (va_up (va_up (fun _ => none) 0 (some ra0)) 1 (some rb0)) 2 (some rc0)) 3 (some rd0))))))), (ra0, .inr (1, [.int rah, .int (nI raz), .ref ra1, .int (nI ras)])), (ra1, .inl (T 1, 40, .inr (.inl raf))), (rb0, .inr (1, [.int rbh, .int (nI rbz), .ref rb1, .int (nI rbs)])), (rb1, .inl (T 1, 40, .inr (.inl rbf))), (rc0, .inr (1, [.int rch, .int (nI rcz), .ref rc1, .int (nI rcs)])), (rc1, .inl (T 1, 40, .inr (.inl rcf))), (rd0, .inr (1, [.int rdh, .int (nI rdz), .ref rd1, .int (nI rds)])), (rd1, .inl (T 1, 40, .inr (.inl rdf)))] H locs := V _ [] rfl rfl rfl (by decide +kernel) rfl
      show W p l e _ s m args below meth c H locs _ _ _ (F0 m 13 ls [.int (nI 1)])
      refine lv_if_ne (tgt := 19) hx hb dX7_numbers_13 (by decide) (fun _ => ?_) (fun c => absurd (show (nI 1) = 0 from c) (by decide +kernel))
      refine lv_iload_n hx hb dX7_numbers_19 rfl (lv_at hl 3 rfl) ?_
      refine lv_iconst (v := (nI 0)) hx hb dX7_numbers_20 (by decide +kernel) ?_
      refine lv_bipush (v := (nI 40)) hx hb dX7_numbers_21 (by decide +kernel) ?_
      refine g_callSU (nA := 3) hC V hl.1 (c_isWithin l D T n (nI 0) (nI 40)) w_292 w_293 w_2 w_294 (by decide +kernel) rfl ⟨(Nat.le_of_ble_eq_true rfl), (Nat.le_of_ble_eq_true rfl)⟩ [] rfl rfl (Nat.le_of_ble_eq_true rfl) dX7_numbers_23 ⟨(Nat.le_of_ble_eq_true rfl), (Nat.le_of_ble_eq_true rfl)⟩ rfl (fun r w1 H locs hQ V => ?_)
      rcases hQ with ⟨rfl, rfl, f_7, f_8⟩ | ⟨rfl, rfl, f_9⟩
      · have V : gW D T A s [(o, .inr (7, [.ref n0, .ref s0, .ref im, .ref iz, .ref rw, .ref t0, .ref u0, .ref h0, .ref y0, sv])), (rw, .inl (T 5, 4, .inr (.inr (.inr (.inr (va_up (va_up (va_up (va_up (fun _ => none) 0 (some ra0)) 1 (some rb0)) 2 (some rc0)) 3 (some rd0))))))), (ra0, .inr (1, [.int rah, .int (nI raz), .ref ra1, .int (nI ras)])), (ra1, .inl (T 1, 40, .inr (.inl raf))), (rb0, .inr (1, [.int rbh, .int (nI rbz), .ref rb1, .int (nI rbs)])), (rb1, .inl (T 1, 40, .inr (.inl rbf))), (rc0, .inr (1, [.int rch, .int (nI rcz), .ref rc1, .int (nI rcs)])), (rc1, .inl (T 1, 40, .inr (.inl rcf))), (rd0, .inr (1, [.int rdh, .int (nI rdz), .ref rd1, .int (nI rds)])), (rd1, .inl (T 1, 40, .inr (.inl rdf)))] H locs := V _ [] rfl rfl rfl (by decide +kernel) rfl
        show W p l e _ s m args below meth c H locs _ _ _ (F0 m 26 ls [.int (nI 1)])
        obtain ⟨js, hjs1, hjs2, ejs⟩ := g_rng (by decide) (by decide) f_4 f_5
        rw [ejs] at hl
        obtain ⟨jn, hjn1, hjn2, ejn⟩ := g_rng (by decide) (by decide) f_7 f_8
        rw [ejn] at hl
        obtain ⟨j_10, hj_10, ej_10⟩ := g_idx (n := 4) (by decide) f_1 f_2
        rw [ej_10] at hl
        have hj_10 : j_10 = 0 ∨ j_10 = 1 ∨ j_10 = 2 ∨ j_10 = 3 := by omega
        rcases hj_10 with rfl | rfl | rfl | rfl
        · skip
          refine lv_if_ne (tgt := 32) hx hb dX7_numbers_26 (by decide) (fun _ => ?_) (fun c => absurd (show (nI 1) = 0 from c) (by decide +kernel))
          refine lv_aload_n hx hb dX7_numbers_32 rfl (lv_at hl 0 rfl) ?_
          refine g_get hC V (ci := 7) uwX7 0 rfl rfl 4 (by decide) w_253 rfl rfl dX7_numbers_33 ?_
          refine lv_iload_n hx hb dX7_numbers_36 rfl (lv_at hl 1 rfl) ?_
          refine g_aald hC V 1 5 rfl rfl (vp_in_nI (by decide) (by decide)) (v := .ref ra0) (by rw [nI_clamp (by decide)]; rfl) dX7_numbers_37 ?_
          refine lv_iload_n hx hb dX7_numbers_38 rfl (lv_at hl 2 rfl) ?_
          refine lv_iload_n hx hb dX7_numbers_39 rfl (lv_at hl 3 rfl) ?_
          refine g_callVU (nA := 2) hC V hl.1 (r_begin l D T ra0 js jn rah (nI raz) ra1 (nI ras) raf) w_859 w_860 w_861 w_8 w_862 (by decide +kernel) rfl ⟨(Nat.le_of_ble_eq_true rfl), (Nat.le_of_ble_eq_true rfl)⟩ 2 (ci := 1) rfl rfl [2, 3] rfl rfl (Nat.le_of_ble_eq_true rfl) dX7_numbers_40 ⟨(Nat.le_of_ble_eq_true rfl), (Nat.le_of_ble_eq_true rfl)⟩ rfl (fun r w1 H locs hQ V => ?_)
          obtain ⟨g_11, rfl, rfl, f_12⟩ := hQ
          have V : gW D T A s [(o, .inr (7, [.ref n0, .ref s0, .ref im, .ref iz, .ref rw, .ref t0, .ref u0, .ref h0, .ref y0, sv])), (rw, .inl (T 5, 4, .inr (.inr (.inr (.inr (va_up (va_up (va_up (va_up (fun _ => none) 0 (some ra0)) 1 (some rb0)) 2 (some rc0)) 3 (some rd0))))))), (ra0, .inr (1, [.int (nI 1), .int (nI jn), .ref ra1, .int (nI js)])), (ra1, .inl (T 1, 40, .inr (.inl g_11))), (rb0, .inr (1, [.int rbh, .int (nI rbz), .ref rb1, .int (nI rbs)])), (rb1, .inl (T 1, 40, .inr (.inl rbf))), (rc0, .inr (1, [.int rch, .int (nI rcz), .ref rc1, .int (nI rcs)])), (rc1, .inl (T 1, 40, .inr (.inl rcf))), (rd0, .inr (1, [.int rdh, .int (nI rdz), .ref rd1, .int (nI rds)])), (rd1, .inl (T 1, 40, .inr (.inl rdf)))] H locs := V _ [2, 0] rfl rfl rfl (by decide +kernel) rfl
          show W p l e _ s m args below meth c H locs _ _ _ (F0 m 43 ls [])
          refine lv_iconst (v := (nI 0)) hx hb dX7_numbers_43 (by decide +kernel) ?_
          exact g_iret (Qr := (q_x_numbers_f T fq fm fn o row so n n0 s0 im iz rw t0 u0 h0 y0 sv ra0 rb0 rc0 rd0 rah raz ra1 ras raf rbh rbz rb1 rbs rbf rch rcz rc1 rcs rcf rdh rdz rd1 rds rdf)) hC V ⟨(Nat.le_of_ble_eq_true rfl), (Nat.le_of_ble_eq_true rfl)⟩ ⟨(nI 0), (nI 1), jn, js, g_11, rbh, rbz, rbs, rbf, rch, rcz, rcs, rcf, rdh, rdz, rds, rdf, rfl, rfl, (nw_4 ‹_› ‹_› ‹_› ‹_› ‹_› ‹_›), (by first | assumption | omega), (by first | assumption | omega), (by first | assumption | omega), (by first | assumption | omega), (by first | assumption | omega), (by first | assumption | omega), (by first | assumption | omega), (by first | assumption | omega), (RN_y (nw_4 ‹_› ‹_› ‹_› ‹_› ‹_› ‹_›) ej_10 (by decide) ejn (by omega) ejs f_12), (RN_o (nw_4 ‹_› ‹_› ‹_› ‹_› ‹_› ‹_›) ej_10 (by decide) (by decide) (by decide) ejn (by omega) h_zrb h_r1), (RN_o (nw_4 ‹_› ‹_› ‹_› ‹_› ‹_› ‹_›) ej_10 (by decide) (by decide) (by decide) ejn (by omega) h_zrc h_r2), (RN_o (nw_4 ‹_› ‹_› ‹_› ‹_› ‹_› ‹_›) ej_10 (by decide) (by decide) (by decide) ejn (by omega) h_zrd h_r3)⟩ dX7_numbers_44
        · skip
          refine lv_if_ne (tgt := 32) hx hb dX7_numbers_26 (by decide) (fun _ => ?_) (fun c => absurd (show (nI 1) = 0 from c) (by decide +kernel))
          refine lv_aload_n hx hb dX7_numbers_32 rfl (lv_at hl 0 rfl) ?_
          refine g_get hC V (ci := 7) uwX7 0 rfl rfl 4 (by decide) w_253 rfl rfl dX7_numbers_33 ?_
          refine lv_iload_n hx hb dX7_numbers_36 rfl (lv_at hl 1 rfl) ?_
          refine g_aald hC V 1 5 rfl rfl (vp_in_nI (by decide) (by decide)) (v := .ref rb0) (by rw [nI_clamp (by decide)]; rfl) dX7_numbers_37 ?_
          refine lv_iload_n hx hb dX7_numbers_38 rfl (lv_at hl 2 rfl) ?_
          refine lv_iload_n hx hb dX7_numbers_39 rfl (lv_at hl 3 rfl) ?_
          refine g_callVU (nA := 2) hC V hl.1 (r_begin l D T rb0 js jn rbh (nI rbz) rb1 (nI rbs) rbf) w_859 w_860 w_861 w_8 w_862 (by decide +kernel) rfl ⟨(Nat.le_of_ble_eq_true rfl), (Nat.le_of_ble_eq_true rfl)⟩ 4 (ci := 1) rfl rfl [4, 5] rfl rfl (Nat.le_of_ble_eq_true rfl) dX7_numbers_40 ⟨(Nat.le_of_ble_eq_true rfl), (Nat.le_of_ble_eq_true rfl)⟩ rfl (fun r w1 H locs hQ V => ?_)
          obtain ⟨g_13, rfl, rfl, f_14⟩ := hQ
          have V : gW D T A s [(o, .inr (7, [.ref n0, .ref s0, .ref im, .ref iz, .ref rw, .ref t0, .ref u0, .ref h0, .ref y0, sv])), (rw, .inl (T 5, 4, .inr (.inr (.inr (.inr (va_up (va_up (va_up (va_up (fun _ => none) 0 (some ra0)) 1 (some rb0)) 2 (some rc0)) 3 (some rd0))))))), (ra0, .inr (1, [.int rah, .int (nI raz), .ref ra1, .int (nI ras)])), (ra1, .inl (T 1, 40, .inr (.inl raf))), (rb0, .inr (1, [.int (nI 1), .int (nI jn), .ref rb1, .int (nI js)])), (rb1, .inl (T 1, 40, .inr (.inl g_13))), (rc0, .inr (1, [.int rch, .int (nI rcz), .ref rc1, .int (nI rcs)])), (rc1, .inl (T 1, 40, .inr (.inl rcf))), (rd0, .inr (1, [.int rdh, .int (nI rdz), .ref rd1, .int (nI rds)])), (rd1, .inl (T 1, 40, .inr (.inl rdf)))] H locs := V _ [4, 0] rfl rfl rfl (by decide +kernel) rfl
          show W p l e _ s m args below meth c H locs _ _ _ (F0 m 43 ls [])
          refine lv_iconst (v := (nI 0)) hx hb dX7_numbers_43 (by decide +kernel) ?_
          exact g_iret (Qr := (q_x_numbers_f T fq fm fn o row so n n0 s0 im iz rw t0 u0 h0 y0 sv ra0 rb0 rc0 rd0 rah raz ra1 ras raf rbh rbz rb1 rbs rbf rch rcz rc1 rcs rcf rdh rdz rd1 rds rdf)) hC V ⟨(Nat.le_of_ble_eq_true rfl), (Nat.le_of_ble_eq_true rfl)⟩ ⟨(nI 0), rah, raz, ras, raf, (nI 1), jn, js, g_13, rch, rcz, rcs, rcf, rdh, rdz, rds, rdf, rfl, rfl, (nw_4 ‹_› ‹_› ‹_› ‹_› ‹_› ‹_›), (by first | assumption | omega), (by first | assumption | omega), (by first | assumption | omega), (by first | assumption | omega), (by first | assumption | omega), (by first | assumption | omega), (by first | assumption | omega), (by first | assumption | omega), (RN_o (nw_4 ‹_› ‹_› ‹_› ‹_› ‹_› ‹_›) ej_10 (by decide) (by decide) (by decide) ejn (by omega) h_zra h_r0), (RN_y (nw_4 ‹_› ‹_› ‹_› ‹_› ‹_› ‹_›) ej_10 (by decide) ejn (by omega) ejs f_14), (RN_o (nw_4 ‹_› ‹_› ‹_› ‹_› ‹_› ‹_›) ej_10 (by decide) (by decide) (by decide) ejn (by omega) h_zrc h_r2), (RN_o (nw_4 ‹_› ‹_› ‹_› ‹_› ‹_› ‹_›) ej_10 (by decide) (by decide) (by decide) ejn (by omega) h_zrd h_r3)⟩ dX7_numbers_44
        · skip
          refine lv_if_ne (tgt := 32) hx hb dX7_numbers_26 (by decide) (fun _ => ?_) (fun c => absurd (show (nI 1) = 0 from c) (by decide +kernel))
          refine lv_aload_n hx hb dX7_numbers_32 rfl (lv_at hl 0 rfl) ?_
          refine g_get hC V (ci := 7) uwX7 0 rfl rfl 4 (by decide) w_253 rfl rfl dX7_numbers_33 ?_
          refine lv_iload_n hx hb dX7_numbers_36 rfl (lv_at hl 1 rfl) ?_
          refine g_aald hC V 1 5 rfl rfl (vp_in_nI (by decide) (by decide)) (v := .ref rc0) (by rw [nI_clamp (by decide)]; rfl) dX7_numbers_37 ?_
          refine lv_iload_n hx hb dX7_numbers_38 rfl (lv_at hl 2 rfl) ?_
          refine lv_iload_n hx hb dX7_numbers_39 rfl (lv_at hl 3 rfl) ?_
          refine g_callVU (nA := 2) hC V hl.1 (r_begin l D T rc0 js jn rch (nI rcz) rc1 (nI rcs) rcf) w_859 w_860 w_861 w_8 w_862 (by decide +kernel) rfl ⟨(Nat.le_of_ble_eq_true rfl), (Nat.le_of_ble_eq_true rfl)⟩ 6 (ci := 1) rfl rfl [6, 7] rfl rfl (Nat.le_of_ble_eq_true rfl) dX7_numbers_40 ⟨(Nat.le_of_ble_eq_true rfl), (Nat.le_of_ble_eq_true rfl)⟩ rfl (fun r w1 H locs hQ V => ?_)
          obtain ⟨g_15, rfl, rfl, f_16⟩ := hQ
          have V : gW D T A s [(o, .inr (7, [.ref n0, .ref s0, .ref im, .ref iz, .ref rw, .ref t0, .ref u0, .ref h0, .ref y0, sv])), (rw, .inl (T 5, 4, .inr (.inr (.inr (.inr (va_up (va_up (va_up (va_up (fun _ => none) 0 (some ra0)) 1 (some rb0)) 2 (some rc0)) 3 (some rd0))))))), (ra0, .inr (1, [.int rah, .int (nI raz), .ref ra1, .int (nI ras)])), (ra1, .inl (T 1, 40, .inr (.inl raf))), (rb0, .inr (1, [.int rbh, .int (nI rbz), .ref rb1, .int (nI rbs)])), (rb1, .inl (T 1, 40, .inr (.inl rbf))), (rc0, .inr (1, [.int (nI 1), .int (nI jn), .ref rc1, .int (nI js)])), (rc1, .inl (T 1, 40, .inr (.inl g_15))), (rd0, .inr (1, [.int rdh, .int (nI rdz), .ref rd1, .int (nI rds)])), (rd1, .inl (T 1, 40, .inr (.inl rdf)))] H locs := V _ [6, 0] rfl rfl rfl (by decide +kernel) rfl
          show W p l e _ s m args below meth c H locs _ _ _ (F0 m 43 ls [])
          refine lv_iconst (v := (nI 0)) hx hb dX7_numbers_43 (by decide +kernel) ?_
          exact g_iret (Qr := (q_x_numbers_f T fq fm fn o row so n n0 s0 im iz rw t0 u0 h0 y0 sv ra0 rb0 rc0 rd0 rah raz ra1 ras raf rbh rbz rb1 rbs rbf rch rcz rc1 rcs rcf rdh rdz rd1 rds rdf)) hC V ⟨(Nat.le_of_ble_eq_true rfl), (Nat.le_of_ble_eq_true rfl)⟩ ⟨(nI 0), rah, raz, ras, raf, rbh, rbz, rbs, rbf, (nI 1), jn, js, g_15, rdh, rdz, rds, rdf, rfl, rfl, (nw_4 ‹_› ‹_› ‹_› ‹_› ‹_› ‹_›), (by first | assumption | omega), (by first | assumption | omega), (by first | assumption | omega), (by first | assumption | omega), (by first | assumption | omega), (by first | assumption | omega), (by first | assumption | omega), (by first | assumption | omega), (RN_o (nw_4 ‹_› ‹_› ‹_› ‹_› ‹_› ‹_›) ej_10 (by decide) (by decide) (by decide) ejn (by omega) h_zra h_r0), (RN_o (nw_4 ‹_› ‹_› ‹_› ‹_› ‹_› ‹_›) ej_10 (by decide) (by decide) (by decide) ejn (by omega) h_zrb h_r1), (RN_y (nw_4 ‹_› ‹_› ‹_› ‹_› ‹_› ‹_›) ej_10 (by decide) ejn (by omega) ejs f_16), (RN_o (nw_4 ‹_› ‹_› ‹_› ‹_› ‹_› ‹_›) ej_10 (by decide) (by decide) (by decide) ejn (by omega) h_zrd h_r3)⟩ dX7_numbers_44
        · skip
          refine lv_if_ne (tgt := 32) hx hb dX7_numbers_26 (by decide) (fun _ => ?_) (fun c => absurd (show (nI 1) = 0 from c) (by decide +kernel))
          refine lv_aload_n hx hb dX7_numbers_32 rfl (lv_at hl 0 rfl) ?_
          refine g_get hC V (ci := 7) uwX7 0 rfl rfl 4 (by decide) w_253 rfl rfl dX7_numbers_33 ?_
          refine lv_iload_n hx hb dX7_numbers_36 rfl (lv_at hl 1 rfl) ?_
          refine g_aald hC V 1 5 rfl rfl (vp_in_nI (by decide) (by decide)) (v := .ref rd0) (by rw [nI_clamp (by decide)]; rfl) dX7_numbers_37 ?_
          refine lv_iload_n hx hb dX7_numbers_38 rfl (lv_at hl 2 rfl) ?_
          refine lv_iload_n hx hb dX7_numbers_39 rfl (lv_at hl 3 rfl) ?_
          refine g_callVU (nA := 2) hC V hl.1 (r_begin l D T rd0 js jn rdh (nI rdz) rd1 (nI rds) rdf) w_859 w_860 w_861 w_8 w_862 (by decide +kernel) rfl ⟨(Nat.le_of_ble_eq_true rfl), (Nat.le_of_ble_eq_true rfl)⟩ 8 (ci := 1) rfl rfl [8, 9] rfl rfl (Nat.le_of_ble_eq_true rfl) dX7_numbers_40 ⟨(Nat.le_of_ble_eq_true rfl), (Nat.le_of_ble_eq_true rfl)⟩ rfl (fun r w1 H locs hQ V => ?_)
          obtain ⟨g_17, rfl, rfl, f_18⟩ := hQ
          have V : gW D T A s [(o, .inr (7, [.ref n0, .ref s0, .ref im, .ref iz, .ref rw, .ref t0, .ref u0, .ref h0, .ref y0, sv])), (rw, .inl (T 5, 4, .inr (.inr (.inr (.inr (va_up (va_up (va_up (va_up (fun _ => none) 0 (some ra0)) 1 (some rb0)) 2 (some rc0)) 3 (some rd0))))))), (ra0, .inr (1, [.int rah, .int (nI raz), .ref ra1, .int (nI ras)])), (ra1, .inl (T 1, 40, .inr (.inl raf))), (rb0, .inr (1, [.int rbh, .int (nI rbz), .ref rb1, .int (nI rbs)])), (rb1, .inl (T 1, 40, .inr (.inl rbf))), (rc0, .inr (1, [.int rch, .int (nI rcz), .ref rc1, .int (nI rcs)])), (rc1, .inl (T 1, 40, .inr (.inl rcf))), (rd0, .inr (1, [.int (nI 1), .int (nI jn), .ref rd1, .int (nI js)])), (rd1, .inl (T 1, 40, .inr (.inl g_17)))] H locs := V _ [8, 0] rfl rfl rfl (by decide +kernel) rfl
          show W p l e _ s m args below meth c H locs _ _ _ (F0 m 43 ls [])
          refine lv_iconst (v := (nI 0)) hx hb dX7_numbers_43 (by decide +kernel) ?_
          exact g_iret (Qr := (q_x_numbers_f T fq fm fn o row so n n0 s0 im iz rw t0 u0 h0 y0 sv ra0 rb0 rc0 rd0 rah raz ra1 ras raf rbh rbz rb1 rbs rbf rch rcz rc1 rcs rcf rdh rdz rd1 rds rdf)) hC V ⟨(Nat.le_of_ble_eq_true rfl), (Nat.le_of_ble_eq_true rfl)⟩ ⟨(nI 0), rah, raz, ras, raf, rbh, rbz, rbs, rbf, rch, rcz, rcs, rcf, (nI 1), jn, js, g_17, rfl, rfl, (nw_4 ‹_› ‹_› ‹_› ‹_› ‹_› ‹_›), (by first | assumption | omega), (by first | assumption | omega), (by first | assumption | omega), (by first | assumption | omega), (by first | assumption | omega), (by first | assumption | omega), (by first | assumption | omega), (by first | assumption | omega), (RN_o (nw_4 ‹_› ‹_› ‹_› ‹_› ‹_› ‹_›) ej_10 (by decide) (by decide) (by decide) ejn (by omega) h_zra h_r0), (RN_o (nw_4 ‹_› ‹_› ‹_› ‹_› ‹_› ‹_›) ej_10 (by decide) (by decide) (by decide) ejn (by omega) h_zrb h_r1), (RN_o (nw_4 ‹_› ‹_› ‹_› ‹_› ‹_› ‹_›) ej_10 (by decide) (by decide) (by decide) ejn (by omega) h_zrc h_r2), (RN_y (nw_4 ‹_› ‹_› ‹_› ‹_› ‹_› ‹_›) ej_10 (by decide) ejn (by omega) ejs f_18)⟩ dX7_numbers_44
      · have V : gW D T A s [(o, .inr (7, [.ref n0, .ref s0, .ref im, .ref iz, .ref rw, .ref t0, .ref u0, .ref h0, .ref y0, sv])), (rw, .inl (T 5, 4, .inr (.inr (.inr (.inr (va_up (va_up (va_up (va_up (fun _ => none) 0 (some ra0)) 1 (some rb0)) 2 (some rc0)) 3 (some rd0))))))), (ra0, .inr (1, [.int rah, .int (nI raz), .ref ra1, .int (nI ras)])), (ra1, .inl (T 1, 40, .inr (.inl raf))), (rb0, .inr (1, [.int rbh, .int (nI rbz), .ref rb1, .int (nI rbs)])), (rb1, .inl (T 1, 40, .inr (.inl rbf))), (rc0, .inr (1, [.int rch, .int (nI rcz), .ref rc1, .int (nI rcs)])), (rc1, .inl (T 1, 40, .inr (.inl rcf))), (rd0, .inr (1, [.int rdh, .int (nI rdz), .ref rd1, .int (nI rds)])), (rd1, .inl (T 1, 40, .inr (.inl rdf)))] H locs := V _ [] rfl rfl rfl (by decide +kernel) rfl
        show W p l e _ s m args below meth c H locs _ _ _ (F0 m 26 ls [.int (nI 0)])
        refine lv_if_ne (tgt := 32) hx hb dX7_numbers_26 (by decide) (fun c => absurd (show (nI 0) = 0 by decide +kernel) c) (fun _ => ?_)
        refine lv_bipush (v := (-3)) hx hb dX7_numbers_29 (by decide +kernel) ?_
        exact g_iret (Qr := (q_x_numbers_f T fq fm fn o row so n n0 s0 im iz rw t0 u0 h0 y0 sv ra0 rb0 rc0 rd0 rah raz ra1 ras raf rbh rbz rb1 rbs rbf rch rcz rc1 rcs rcf rdh rdz rd1 rds rdf)) hC V ⟨(Nat.le_of_ble_eq_true rfl), (Nat.le_of_ble_eq_true rfl)⟩ ⟨(-3), rah, raz, ras, raf, rbh, rbz, rbs, rbf, rch, rcz, rcs, rcf, rdh, rdz, rds, rdf, rfl, rfl, (nw_3 ‹_› ‹_› ‹_› ‹_› ‹_›), (by first | assumption | omega), (by first | assumption | omega), (by first | assumption | omega), (by first | assumption | omega), (by first | assumption | omega), (by first | assumption | omega), (by first | assumption | omega), (by first | assumption | omega), (RN_n (nw_n0 (z := -3) (nw_3 ‹_› ‹_› ‹_› ‹_› ‹_›) m3_0) h_r0), (RN_n (nw_n0 (z := -3) (nw_3 ‹_› ‹_› ‹_› ‹_› ‹_›) m3_0) h_r1), (RN_n (nw_n0 (z := -3) (nw_3 ‹_› ‹_› ‹_› ‹_› ‹_›) m3_0) h_r2), (RN_n (nw_n0 (z := -3) (nw_3 ‹_› ‹_› ‹_› ‹_› ‹_›) m3_0) h_r3)⟩ dX7_numbers_31
    · have V : gW D T A s [(o, .inr (7, [.ref n0, .ref s0, .ref im, .ref iz, .ref rw, .ref t0, .ref u0, .ref h0, .ref y0, sv])), (rw, .inl (T 5, 4, .inr (.inr (.inr (.inr (va_up (va_up (va_up (va_up (fun _ => none) 0 (some ra0)) 1 (some rb0)) 2 (some rc0)) 3 (some rd0))))))), (ra0, .inr (1, [.int rah, .int (nI raz), .ref ra1, .int (nI ras)])), (ra1, .inl (T 1, 40, .inr (.inl raf))), (rb0, .inr (1, [.int rbh, .int (nI rbz), .ref rb1, .int (nI rbs)])), (rb1, .inl (T 1, 40, .inr (.inl rbf))), (rc0, .inr (1, [.int rch, .int (nI rcz), .ref rc1, .int (nI rcs)])), (rc1, .inl (T 1, 40, .inr (.inl rcf))), (rd0, .inr (1, [.int rdh, .int (nI rdz), .ref rd1, .int (nI rds)])), (rd1, .inl (T 1, 40, .inr (.inl rdf)))] H locs := V _ [] rfl rfl rfl (by decide +kernel) rfl
      show W p l e _ s m args below meth c H locs _ _ _ (F0 m 13 ls [.int (nI 0)])
      refine lv_if_ne (tgt := 19) hx hb dX7_numbers_13 (by decide) (fun c => absurd (show (nI 0) = 0 by decide +kernel) c) (fun _ => ?_)
      refine lv_bipush (v := (-2)) hx hb dX7_numbers_16 (by decide +kernel) ?_
      exact g_iret (Qr := (q_x_numbers_f T fq fm fn o row so n n0 s0 im iz rw t0 u0 h0 y0 sv ra0 rb0 rc0 rd0 rah raz ra1 ras raf rbh rbz rb1 rbs rbf rch rcz rc1 rcs rcf rdh rdz rd1 rds rdf)) hC V ⟨(Nat.le_of_ble_eq_true rfl), (Nat.le_of_ble_eq_true rfl)⟩ ⟨(-2), rah, raz, ras, raf, rbh, rbz, rbs, rbf, rch, rcz, rcs, rcf, rdh, rdz, rds, rdf, rfl, rfl, (by first | exact nw_1 (by assumption) | exact nw_2 (by assumption)), (by first | assumption | omega), (by first | assumption | omega), (by first | assumption | omega), (by first | assumption | omega), (by first | assumption | omega), (by first | assumption | omega), (by first | assumption | omega), (by first | assumption | omega), (RN_n (nw_n0 (z := -2) (by first | exact nw_1 (by assumption) | exact nw_2 (by assumption)) m2_0) h_r0), (RN_n (nw_n0 (z := -2) (by first | exact nw_1 (by assumption) | exact nw_2 (by assumption)) m2_0) h_r1), (RN_n (nw_n0 (z := -2) (by first | exact nw_1 (by assumption) | exact nw_2 (by assumption)) m2_0) h_r2), (RN_n (nw_n0 (z := -2) (by first | exact nw_1 (by assumption) | exact nw_2 (by assumption)) m2_0) h_r3)⟩ dX7_numbers_18
  · have V : gW D T A s [(o, .inr (7, [.ref n0, .ref s0, .ref im, .ref iz, .ref rw, .ref t0, .ref u0, .ref h0, .ref y0, sv])), (rw, .inl (T 5, 4, .inr (.inr (.inr (.inr (va_up (va_up (va_up (va_up (fun _ => none) 0 (some ra0)) 1 (some rb0)) 2 (some rc0)) 3 (some rd0))))))), (ra0, .inr (1, [.int rah, .int (nI raz), .ref ra1, .int (nI ras)])), (ra1, .inl (T 1, 40, .inr (.inl raf))), (rb0, .inr (1, [.int rbh, .int (nI rbz), .ref rb1, .int (nI rbs)])), (rb1, .inl (T 1, 40, .inr (.inl rbf))), (rc0, .inr (1, [.int rch, .int (nI rcz), .ref rc1, .int (nI rcs)])), (rc1, .inl (T 1, 40, .inr (.inl rcf))), (rd0, .inr (1, [.int rdh, .int (nI rdz), .ref rd1, .int (nI rds)])), (rd1, .inl (T 1, 40, .inr (.inl rdf)))] H locs := V _ [] rfl rfl rfl (by decide +kernel) rfl
    show W p l e _ s m args below meth c H locs _ _ _ (F0 m 4 ls [.int (nI 0)])
    refine lv_if_eq (tgt := 16) hx hb dX7_numbers_4 (by decide) (fun _ => ?_) (fun c => absurd (show (nI 0) = 0 by decide +kernel) c)
    refine lv_bipush (v := (-2)) hx hb dX7_numbers_16 (by decide +kernel) ?_
    exact g_iret (Qr := (q_x_numbers_f T fq fm fn o row so n n0 s0 im iz rw t0 u0 h0 y0 sv ra0 rb0 rc0 rd0 rah raz ra1 ras raf rbh rbz rb1 rbs rbf rch rcz rc1 rcs rcf rdh rdz rd1 rds rdf)) hC V ⟨(Nat.le_of_ble_eq_true rfl), (Nat.le_of_ble_eq_true rfl)⟩ ⟨(-2), rah, raz, ras, raf, rbh, rbz, rbs, rbf, rch, rcz, rcs, rcf, rdh, rdz, rds, rdf, rfl, rfl, (by first | exact nw_1 (by assumption) | exact nw_2 (by assumption)), (by first | assumption | omega), (by first | assumption | omega), (by first | assumption | omega), (by first | assumption | omega), (by first | assumption | omega), (by first | assumption | omega), (by first | assumption | omega), (by first | assumption | omega), (RN_n (nw_n0 (z := -2) (by first | exact nw_1 (by assumption) | exact nw_2 (by assumption)) m2_0) h_r0), (RN_n (nw_n0 (z := -2) (by first | exact nw_1 (by assumption) | exact nw_2 (by assumption)) m2_0) h_r1), (RN_n (nw_n0 (z := -2) (by first | exact nw_1 (by assumption) | exact nw_2 (by assumption)) m2_0) h_r2), (RN_n (nw_n0 (z := -2) (by first | exact nw_1 (by assumption) | exact nw_2 (by assumption)) m2_0) h_r3)⟩ dX7_numbers_18

def q_m_numbers_f (T : Nat → ClassId) (o : Nat) (row : Int32) (so : Int32) (n_ : Int32) (w0 : Int32) (g1 : Nat) (g2 : Nat) (g3 : Nat) (g4 : Nat) (tp : Nat) (w6 : Int32) (w7 : Int32) (w8 : Int32) (w9 : Int32) (w10 : Int32) (w11 : Int32) (w12 : Int32) (w13 : Int32) (w14 : Int32) (g15 : Nat) (w16 : Int32) (g17 : Nat) (w18 : Int32) (w19 : Int32) (g20 : Nat) (w21 : Int32) (g22 : Nat) (g23 : Nat) (g24 : Nat) (w25 : Int32) (w26 : Int32) (w27 : Int32) (g28 : Nat) (g29 : Nat) (w30 : Int32) (g31 : Nat) (g32 : Nat) (g33 : Nat) (fq : Nat → Int32) (fm : Nat → Int32) (fn : Nat → Int64) : Option Value → va_W → Prop := fun rr ww => (∃ (z : Int32) (gq : Nat → Int32) (gm : Nat → Int32) (gn : Nat → Int64), rr = some (.int z) ∧ ww = [(o, .inr (8, [.int (nI 0), .ref g1, .ref g2, .ref g3, .ref g4, .int (nI tp), .int w6, .int w7, .int w8, .int w9, .int w10, .int w11, .int w12, .int w13, .int w14, .ref g15, .int w16, .ref g17, .int w18, .int w19, .ref g20, .int w21, .ref g22, .ref g23, .ref g24, .int w25, .int w26, .int w27, .ref g28, .ref g29, .int w30, .ref g31, .ref g32, .ref g33])), (g31, .inl (T 0, 4, .inl gq)), (g32, .inl (T 0, 4, .inl gm)), (g33, .inl (T 1, 160, .inr (.inl gn)))] ∧ z = numWhy row so n_ ∧ (∀ i, i < 4 → (gq i = -1 ∨ bd (gq i) 4)) ∧ (∀ i, i < 4 → bd (gm i) 41) ∧ gq = numQ fq row so n_ ∧ gm = numM fm row so n_ ∧ gn = numN fn row so n_)
set_option maxHeartbeats 4000000 in
set_option maxRecDepth 100000 in
theorem m_numbers_f (l : Launch) (D : va_G) (T : Nat → ClassId) (o : Nat) (row : Int32) (so : Int32) (n_ : Int32) (w0 : Int32) (g1 : Nat) (g2 : Nat) (g3 : Nat) (g4 : Nat) (tp : Nat) (w6 : Int32) (w7 : Int32) (w8 : Int32) (w9 : Int32) (w10 : Int32) (w11 : Int32) (w12 : Int32) (w13 : Int32) (w14 : Int32) (g15 : Nat) (w16 : Int32) (g17 : Nat) (w18 : Int32) (w19 : Int32) (g20 : Nat) (w21 : Int32) (g22 : Nat) (g23 : Nat) (g24 : Nat) (w25 : Int32) (w26 : Int32) (w27 : Int32) (g28 : Nat) (g29 : Nat) (w30 : Int32) (g31 : Nat) (g32 : Nat) (g33 : Nat) (fq : Nat → Int32) (fm : Nat → Int32) (fn : Nat → Int64) (h_rs : ∀ i, i < 4 → (fq i = -1 ∨ bd (fq i) 4)) (h_rm : ∀ i, i < 4 → bd (fm i) 41) : Ct l yX8_numbers cX8_numbers 5 (some .int) 1 0 0 D T [.ref o, .int row, .int so, .int n_] [(o, .inr (8, [.int w0, .ref g1, .ref g2, .ref g3, .ref g4, .int (nI tp), .int w6, .int w7, .int w8, .int w9, .int w10, .int w11, .int w12, .int w13, .int w14, .ref g15, .int w16, .ref g17, .int w18, .int w19, .ref g20, .int w21, .ref g22, .ref g23, .ref g24, .int w25, .int w26, .int w27, .ref g28, .ref g29, .int w30, .ref g31, .ref g32, .ref g33])), (g31, .inl (T 0, 4, .inl fq)), (g32, .inl (T 0, 4, .inl fm)), (g33, .inl (T 1, 160, .inr (.inl fn)))] (q_m_numbers_f T o row so n_ w0 g1 g2 g3 g4 tp w6 w7 w8 w9 w10 w11 w12 w13 w14 g15 w16 g17 w18 w19 g20 w21 g22 g23 g24 w25 w26 w27 g28 g29 w30 g31 g32 g33 fq fm fn) := by
  refine Ct.of (cc := cX8_numbers) (maxL := 5) (ret := (some .int)) (by decide) (Nat.le_of_ble_eq_true rfl) ?_
  intro p e s m args below meth c A ls hC hnm V hl
  obtain ⟨hx, hb, hr, hml, hown, hts, hlocks⟩ := id hC
  generalize hH : s.heap = H at V ⊢
  clear hH
  have hl : lv_has ls 5 [(0, .ref o), (1, .int row), (2, .int so), (3, .int n_)] := hl
  generalize hlo : ([] : List Loc) = locs at V ⊢
  clear hlo
  refine lv_aload_n hx hb dX8_numbers_0 rfl (lv_at hl 0 rfl) ?_
  refine lv_iconst (v := (nI 0)) hx hb dX8_numbers_1 (by decide +kernel) ?_
  refine g_put hC V (ci := 8) uwX8 tyX8 tyX8_ok nmX8 0 rfl rfl 0 (by decide) w_912 rfl rfl rfl rfl (Nat.le_of_ble_eq_true rfl) (ws' := [(o, .inr (8, [.int (nI 0), .ref g1, .ref g2, .ref g3, .ref g4, .int (nI tp), .int w6, .int w7, .int w8, .int w9, .int w10, .int w11, .int w12, .int w13, .int w14, .ref g15, .int w16, .ref g17, .int w18, .int w19, .ref g20, .int w21, .ref g22, .ref g23, .ref g24, .int w25, .int w26, .int w27, .ref g28, .ref g29, .int w30, .ref g31, .ref g32, .ref g33])), (g31, .inl (T 0, 4, .inl fq)), (g32, .inl (T 0, 4, .inl fm)), (g33, .inl (T 1, 160, .inr (.inl fn)))]) rfl dX8_numbers_2 (fun H locs V => ?_)
  refine lv_iload_n hx hb dX8_numbers_5 rfl (lv_at hl 1 rfl) ?_
  refine lv_i2l (v := row.toInt64) hx hb dX8_numbers_6 rfl ?_
  refine lv_lconst (v := (nI 0).toInt64) hx hb dX8_numbers_7 (by decide +kernel) ?_
  refine lv_ldc2 (v := (3)) hx hb hown (hts _ w_1144) dX8_numbers_8 ?_
  refine g_vl (y := (nI 3).toInt64) (by decide +kernel) ?_
  refine g_callSU (nA := 3) hC V hl.1 (m_within l D T row (nI 0) (nI 3)) w_1023 w_1024 w_9 w_1025 (by decide +kernel) rfl ⟨(Nat.le_of_ble_eq_true rfl), (Nat.le_of_ble_eq_true rfl)⟩ [] rfl rfl (Nat.le_of_ble_eq_true rfl) dX8_numbers_11 ⟨(Nat.le_of_ble_eq_true rfl), (Nat.le_of_ble_eq_true rfl)⟩ rfl (fun r w1 H locs hQ V => ?_)
  rcases hQ with ⟨rfl, rfl, f_1, f_2⟩ | ⟨rfl, rfl, f_3⟩
  · have V : gW D T A s [(o, .inr (8, [.int (nI 0), .ref g1, .ref g2, .ref g3, .ref g4, .int (nI tp), .int w6, .int w7, .int w8, .int w9, .int w10, .int w11, .int w12, .int w13, .int w14, .ref g15, .int w16, .ref g17, .int w18, .int w19, .ref g20, .int w21, .ref g22, .ref g23, .ref g24, .int w25, .int w26, .int w27, .ref g28, .ref g29, .int w30, .ref g31, .ref g32, .ref g33])), (g31, .inl (T 0, 4, .inl fq)), (g32, .inl (T 0, 4, .inl fm)), (g33, .inl (T 1, 160, .inr (.inl fn)))] H locs := V _ [] rfl rfl rfl (by decide +kernel) rfl
    show W p l e _ s m args below meth c H locs _ _ _ (F0 m 14 ls [.int (nI 1)])
    have r1 : ¬ row < 0 := f_1
    have r2 : ¬ nI 4 ≤ row := nv_n rfl (by decide) f_2
    refine lv_if_eq (tgt := 29) hx hb dX8_numbers_14 (by decide) (fun c => absurd (show (nI 1) = 0 from c) (by decide +kernel)) (fun _ => ?_)
    refine lv_iload_n hx hb dX8_numbers_17 rfl (lv_at hl 2 rfl) ?_
    refine lv_i2l (v := so.toInt64) hx hb dX8_numbers_18 rfl ?_
    refine lv_lconst (v := (nI 0).toInt64) hx hb dX8_numbers_19 (by decide +kernel) ?_
    refine lv_ldc2 (v := (3)) hx hb hown (hts _ w_1144) dX8_numbers_20 ?_
    refine g_vl (y := (nI 3).toInt64) (by decide +kernel) ?_
    refine g_callSU (nA := 3) hC V hl.1 (m_within l D T so (nI 0) (nI 3)) w_1023 w_1024 w_9 w_1025 (by decide +kernel) rfl ⟨(Nat.le_of_ble_eq_true rfl), (Nat.le_of_ble_eq_true rfl)⟩ [] rfl rfl (Nat.le_of_ble_eq_true rfl) dX8_numbers_23 ⟨(Nat.le_of_ble_eq_true rfl), (Nat.le_of_ble_eq_true rfl)⟩ rfl (fun r w1 H locs hQ V => ?_)
    rcases hQ with ⟨rfl, rfl, f_4, f_5⟩ | ⟨rfl, rfl, f_6⟩
    · have V : gW D T A s [(o, .inr (8, [.int (nI 0), .ref g1, .ref g2, .ref g3, .ref g4, .int (nI tp), .int w6, .int w7, .int w8, .int w9, .int w10, .int w11, .int w12, .int w13, .int w14, .ref g15, .int w16, .ref g17, .int w18, .int w19, .ref g20, .int w21, .ref g22, .ref g23, .ref g24, .int w25, .int w26, .int w27, .ref g28, .ref g29, .int w30, .ref g31, .ref g32, .ref g33])), (g31, .inl (T 0, 4, .inl fq)), (g32, .inl (T 0, 4, .inl fm)), (g33, .inl (T 1, 160, .inr (.inl fn)))] H locs := V _ [] rfl rfl rfl (by decide +kernel) rfl
      show W p l e _ s m args below meth c H locs _ _ _ (F0 m 26 ls [.int (nI 1)])
      refine lv_if_ne (tgt := 32) hx hb dX8_numbers_26 (by decide) (fun _ => ?_) (fun c => absurd (show (nI 1) = 0 from c) (by decide +kernel))
      refine lv_iload_n hx hb dX8_numbers_32 rfl (lv_at hl 3 rfl) ?_
      refine lv_i2l (v := n_.toInt64) hx hb dX8_numbers_33 rfl ?_
      refine lv_lconst (v := (nI 0).toInt64) hx hb dX8_numbers_34 (by decide +kernel) ?_
      refine lv_ldc2 (v := (40)) hx hb hown (hts _ w_1376) dX8_numbers_35 ?_
      refine g_vl (y := (nI 40).toInt64) (by decide +kernel) ?_
      refine g_callSU (nA := 3) hC V hl.1 (m_within l D T n_ (nI 0) (nI 40)) w_1023 w_1024 w_9 w_1025 (by decide +kernel) rfl ⟨(Nat.le_of_ble_eq_true rfl), (Nat.le_of_ble_eq_true rfl)⟩ [] rfl rfl (Nat.le_of_ble_eq_true rfl) dX8_numbers_38 ⟨(Nat.le_of_ble_eq_true rfl), (Nat.le_of_ble_eq_true rfl)⟩ rfl (fun r w1 H locs hQ V => ?_)
      rcases hQ with ⟨rfl, rfl, f_7, f_8⟩ | ⟨rfl, rfl, f_9⟩
      · have V : gW D T A s [(o, .inr (8, [.int (nI 0), .ref g1, .ref g2, .ref g3, .ref g4, .int (nI tp), .int w6, .int w7, .int w8, .int w9, .int w10, .int w11, .int w12, .int w13, .int w14, .ref g15, .int w16, .ref g17, .int w18, .int w19, .ref g20, .int w21, .ref g22, .ref g23, .ref g24, .int w25, .int w26, .int w27, .ref g28, .ref g29, .int w30, .ref g31, .ref g32, .ref g33])), (g31, .inl (T 0, 4, .inl fq)), (g32, .inl (T 0, 4, .inl fm)), (g33, .inl (T 1, 160, .inr (.inl fn)))] H locs := V _ [] rfl rfl rfl (by decide +kernel) rfl
        show W p l e _ s m args below meth c H locs _ _ _ (F0 m 41 ls [.int (nI 1)])
        obtain ⟨jr, hjr1, hjr2, ejr⟩ := g_rng (by decide) (by decide) f_1 f_2
        rw [ejr] at hl
        obtain ⟨js, hjs1, hjs2, ejs⟩ := g_rng (by decide) (by decide) f_4 f_5
        rw [ejs] at hl
        obtain ⟨jn, hjn1, hjn2, ejn⟩ := g_rng (by decide) (by decide) f_7 f_8
        rw [ejn] at hl
        refine lv_if_ne (tgt := 47) hx hb dX8_numbers_41 (by decide) (fun _ => ?_) (fun c => absurd (show (nI 1) = 0 from c) (by decide +kernel))
        refine lv_aload_n hx hb dX8_numbers_47 rfl (lv_at hl 0 rfl) ?_
        refine g_get hC V (ci := 8) uwX8 0 rfl rfl 31 (by decide) w_943 rfl rfl dX8_numbers_48 ?_
        refine lv_iload_n hx hb dX8_numbers_51 rfl (lv_at hl 1 rfl) ?_
        refine lv_iload_n hx hb dX8_numbers_52 rfl (lv_at hl 2 rfl) ?_
        refine g_iast hC V 1 rfl (vp_in_nI (by omega) (by omega)) (f' := (upd fq jr (nI js))) (by rw [nI_clamp (by omega)]) (ws' := [(o, .inr (8, [.int (nI 0), .ref g1, .ref g2, .ref g3, .ref g4, .int (nI tp), .int w6, .int w7, .int w8, .int w9, .int w10, .int w11, .int w12, .int w13, .int w14, .ref g15, .int w16, .ref g17, .int w18, .int w19, .ref g20, .int w21, .ref g22, .ref g23, .ref g24, .int w25, .int w26, .int w27, .ref g28, .ref g29, .int w30, .ref g31, .ref g32, .ref g33])), (g31, .inl (T 0, 4, .inl (upd fq jr (nI js)))), (g32, .inl (T 0, 4, .inl fm)), (g33, .inl (T 1, 160, .inr (.inl fn)))]) rfl dX8_numbers_53 (fun H locs V => ?_)
        refine lv_aload_n hx hb dX8_numbers_54 rfl (lv_at hl 0 rfl) ?_
        refine g_get hC V (ci := 8) uwX8 0 rfl rfl 32 (by decide) w_944 rfl rfl dX8_numbers_55 ?_
        refine lv_iload_n hx hb dX8_numbers_58 rfl (lv_at hl 1 rfl) ?_
        refine lv_iload_n hx hb dX8_numbers_59 rfl (lv_at hl 3 rfl) ?_
        refine g_iast hC V 2 rfl (vp_in_nI (by omega) (by omega)) (f' := (upd fm jr (nI jn))) (by rw [nI_clamp (by omega)]) (ws' := [(o, .inr (8, [.int (nI 0), .ref g1, .ref g2, .ref g3, .ref g4, .int (nI tp), .int w6, .int w7, .int w8, .int w9, .int w10, .int w11, .int w12, .int w13, .int w14, .ref g15, .int w16, .ref g17, .int w18, .int w19, .ref g20, .int w21, .ref g22, .ref g23, .ref g24, .int w25, .int w26, .int w27, .ref g28, .ref g29, .int w30, .ref g31, .ref g32, .ref g33])), (g31, .inl (T 0, 4, .inl (upd fq jr (nI js)))), (g32, .inl (T 0, 4, .inl (upd fm jr (nI jn)))), (g33, .inl (T 1, 160, .inr (.inl fn)))]) rfl dX8_numbers_60 (fun H locs V => ?_)
        refine lv_iconst (v := (nI 0)) hx hb dX8_numbers_61 (by decide +kernel) ?_
        refine lv_istore (lv' := [(4, .int (nI 0)), (0, .ref o), (1, .int (nI jr)), (2, .int (nI js)), (3, .int (nI jn))]) hx hb dX8_numbers_62 hl (by decide) rfl (fun ls hl => ?_)
        have L_10 : ∀ (fu : Nat) (k64 : Nat) (gz : Nat → Int64), k64 ≤ jn → (∀ j, j < k64 → gz (40 * jr + j) = 0) → (∀ j, (j < 40 * jr ∨ 40 * jr + k64 ≤ j) → gz j = fn j) → jn - k64 < fu → ∀ (H : Heap) (locs : List Loc) (ls : Array Slot), gW D T A s [(o, .inr (8, [.int (nI 0), .ref g1, .ref g2, .ref g3, .ref g4, .int (nI tp), .int w6, .int w7, .int w8, .int w9, .int w10, .int w11, .int w12, .int w13, .int w14, .ref g15, .int w16, .ref g17, .int w18, .int w19, .ref g20, .int w21, .ref g22, .ref g23, .ref g24, .int w25, .int w26, .int w27, .ref g28, .ref g29, .int w30, .ref g31, .ref g32, .ref g33])), (g31, .inl (T 0, 4, .inl (upd fq jr (nI js)))), (g32, .inl (T 0, 4, .inl (upd fm jr (nI jn)))), (g33, .inl (T 1, 160, .inr (.inl gz)))] H locs → lv_has ls 5 [(4, .int (nI k64)), (0, .ref o), (1, .int (nI jr)), (2, .int (nI js)), (3, .int (nI jn))] → W p l e (rmD 1 0 0) s m args below meth c H locs 0 0 (MQ below (gQ D A (q_m_numbers_f T o row so n_ w0 g1 g2 g3 g4 tp w6 w7 w8 w9 w10 w11 w12 w13 w14 g15 w16 g17 w18 w19 g20 w21 g22 g23 g24 w25 w26 w27 g28 g29 w30 g31 g32 g33 fq fm fn)) args s 0 0 A) (F0 m 64 ls []) := by
          intro fu_64
          induction fu_64 with
          | zero => intro k64 gz hk64 hz1 hz2 hmu; exact absurd hmu (Nat.not_lt_zero _)
          | succ fu_64 ih_64 =>
            intro k64 gz hk64 hz1 hz2 hmu_64 H locs ls V hl
            refine lv_iload hx hb dX8_numbers_64 (lv_at hl 0 rfl) ?_
            refine lv_iload_n hx hb dX8_numbers_66 rfl (lv_at hl 4 rfl) ?_
            refine lv_icmp_ge (tgt := 89) hx hb dX8_numbers_67 (by decide) (fun c_11 => ?_) (fun c_11 => ?_)
            · skip
              have c_11 := b_le (by omega) (by omega) c_11
              refine lv_iconst (v := (nI 0)) hx hb dX8_numbers_89 (by decide +kernel) ?_
              exact g_iret (Qr := (q_m_numbers_f T o row so n_ w0 g1 g2 g3 g4 tp w6 w7 w8 w9 w10 w11 w12 w13 w14 g15 w16 g17 w18 w19 g20 w21 g22 g23 g24 w25 w26 w27 g28 g29 w30 g31 g32 g33 fq fm fn)) hC V ⟨(Nat.le_of_ble_eq_true rfl), (Nat.le_of_ble_eq_true rfl)⟩ ⟨(nI 0), (upd fq jr (nI js)), (upd fm jr (nI jn)), gz, rfl, rfl, (nw_4 ‹_› ‹_› ‹_› ‹_› ‹_› ‹_›), (rs_st h_rs (by omega)), (rm_st h_rm (by omega)), (NM_y (fq := fq) (fm := fm) (nw_4 ‹_› ‹_› ‹_› ‹_› ‹_› ‹_›) ejr (by omega) ejs ejn (by omega) (fun j hj => hz1 j (by omega)) (fun j hj => hz2 j (by omega))).1, (NM_y (fq := fq) (fm := fm) (nw_4 ‹_› ‹_› ‹_› ‹_› ‹_› ‹_›) ejr (by omega) ejs ejn (by omega) (fun j hj => hz1 j (by omega)) (fun j hj => hz2 j (by omega))).2.1, (NM_y (fq := fq) (fm := fm) (nw_4 ‹_› ‹_› ‹_› ‹_› ‹_› ‹_›) ejr (by omega) ejs ejn (by omega) (fun j hj => hz1 j (by omega)) (fun j hj => hz2 j (by omega))).2.2⟩ dX8_numbers_90
            · skip
              have c_11 := b_nle (by omega) (by omega) c_11
              refine lv_aload_n hx hb dX8_numbers_70 rfl (lv_at hl 1 rfl) ?_
              refine g_get hC V (ci := 8) uwX8 0 rfl rfl 33 (by decide) w_945 rfl rfl dX8_numbers_71 ?_
              refine lv_bipush (v := (nI 40)) hx hb dX8_numbers_74 (by decide +kernel) ?_
              refine lv_iload_n hx hb dX8_numbers_76 rfl (lv_at hl 2 rfl) ?_
              refine lv_imul hx hb dX8_numbers_77 ?_
              refine g_vi (y := (nI (40 * jr))) (pk_mul _ _) ?_
              refine lv_iload hx hb dX8_numbers_78 (lv_at hl 0 rfl) ?_
              refine lv_iadd hx hb dX8_numbers_80 ?_
              refine g_vi (y := (nI ((40 * jr) + k64))) (nI_add _ _) ?_
              refine lv_lconst (v := (nI 0).toInt64) hx hb dX8_numbers_81 (by decide +kernel) ?_
              refine g_last hC V 3 rfl (vp_in_nI (by omega) (by omega)) (f' := (vp_updL gz ((40 * jr) + k64) (nI 0).toInt64)) (by rw [nI_clamp (by omega)]) (ws' := [(o, .inr (8, [.int (nI 0), .ref g1, .ref g2, .ref g3, .ref g4, .int (nI tp), .int w6, .int w7, .int w8, .int w9, .int w10, .int w11, .int w12, .int w13, .int w14, .ref g15, .int w16, .ref g17, .int w18, .int w19, .ref g20, .int w21, .ref g22, .ref g23, .ref g24, .int w25, .int w26, .int w27, .ref g28, .ref g29, .int w30, .ref g31, .ref g32, .ref g33])), (g31, .inl (T 0, 4, .inl (upd fq jr (nI js)))), (g32, .inl (T 0, 4, .inl (upd fm jr (nI jn)))), (g33, .inl (T 1, 160, .inr (.inl (vp_updL gz ((40 * jr) + k64) (nI 0).toInt64))))]) rfl dX8_numbers_82 (fun H locs V => ?_)
              refine lv_iinc (v := (nI (k64 + 1))) (lv' := [(4, .int (nI (k64 + 1))), (0, .ref o), (1, .int (nI jr)), (2, .int (nI js)), (3, .int (nI jn))]) hx hb dX8_numbers_83 hl (k := 0) rfl (nI_1 _) (by decide) rfl (fun ls hl => ?_)
              refine lv_goto (tgt := 64) hx hb dX8_numbers_86 (by decide) ?_
              exact ih_64 (k64 + 1) (vp_updL gz ((40 * jr) + k64) (nI 0).toInt64) (by omega) (uL_bk (p := fun _ => 0) hz1 z64) (fun j hj => (upL_other (by omega)).trans (hz2 j (by omega))) (by omega) _ _ _ V (lv_sub hl [0, 1, 2, 3, 4] rfl)
        exact L_10 _ 0 fn (by omega) (fun i h => absurd h (Nat.not_lt_zero _)) (fun _ _ => rfl) (Nat.lt_succ_self _) _ _ _ V (lv_sub hl [0, 1, 2, 3, 4] rfl)
      · have V : gW D T A s [(o, .inr (8, [.int (nI 0), .ref g1, .ref g2, .ref g3, .ref g4, .int (nI tp), .int w6, .int w7, .int w8, .int w9, .int w10, .int w11, .int w12, .int w13, .int w14, .ref g15, .int w16, .ref g17, .int w18, .int w19, .ref g20, .int w21, .ref g22, .ref g23, .ref g24, .int w25, .int w26, .int w27, .ref g28, .ref g29, .int w30, .ref g31, .ref g32, .ref g33])), (g31, .inl (T 0, 4, .inl fq)), (g32, .inl (T 0, 4, .inl fm)), (g33, .inl (T 1, 160, .inr (.inl fn)))] H locs := V _ [] rfl rfl rfl (by decide +kernel) rfl
        show W p l e _ s m args below meth c H locs _ _ _ (F0 m 41 ls [.int (nI 0)])
        refine lv_if_ne (tgt := 47) hx hb dX8_numbers_41 (by decide) (fun c => absurd (show (nI 0) = 0 by decide +kernel) c) (fun _ => ?_)
        refine lv_bipush (v := (-3)) hx hb dX8_numbers_44 (by decide +kernel) ?_
        exact g_iret (Qr := (q_m_numbers_f T o row so n_ w0 g1 g2 g3 g4 tp w6 w7 w8 w9 w10 w11 w12 w13 w14 g15 w16 g17 w18 w19 g20 w21 g22 g23 g24 w25 w26 w27 g28 g29 w30 g31 g32 g33 fq fm fn)) hC V ⟨(Nat.le_of_ble_eq_true rfl), (Nat.le_of_ble_eq_true rfl)⟩ ⟨(-3), fq, fm, fn, rfl, rfl, (nw_3 ‹_› ‹_› ‹_› ‹_› ‹_›), h_rs, h_rm, (NM_n (z := -3) (fq := fq) (fm := fm) (fn := fn) (nw_3 ‹_› ‹_› ‹_› ‹_› ‹_›) m3_0).1, (NM_n (z := -3) (fq := fq) (fm := fm) (fn := fn) (nw_3 ‹_› ‹_› ‹_› ‹_› ‹_›) m3_0).2.1, (NM_n (z := -3) (fq := fq) (fm := fm) (fn := fn) (nw_3 ‹_› ‹_› ‹_› ‹_› ‹_›) m3_0).2.2⟩ dX8_numbers_46
    · have V : gW D T A s [(o, .inr (8, [.int (nI 0), .ref g1, .ref g2, .ref g3, .ref g4, .int (nI tp), .int w6, .int w7, .int w8, .int w9, .int w10, .int w11, .int w12, .int w13, .int w14, .ref g15, .int w16, .ref g17, .int w18, .int w19, .ref g20, .int w21, .ref g22, .ref g23, .ref g24, .int w25, .int w26, .int w27, .ref g28, .ref g29, .int w30, .ref g31, .ref g32, .ref g33])), (g31, .inl (T 0, 4, .inl fq)), (g32, .inl (T 0, 4, .inl fm)), (g33, .inl (T 1, 160, .inr (.inl fn)))] H locs := V _ [] rfl rfl rfl (by decide +kernel) rfl
      show W p l e _ s m args below meth c H locs _ _ _ (F0 m 26 ls [.int (nI 0)])
      refine lv_if_ne (tgt := 32) hx hb dX8_numbers_26 (by decide) (fun c => absurd (show (nI 0) = 0 by decide +kernel) c) (fun _ => ?_)
      refine lv_bipush (v := (-2)) hx hb dX8_numbers_29 (by decide +kernel) ?_
      exact g_iret (Qr := (q_m_numbers_f T o row so n_ w0 g1 g2 g3 g4 tp w6 w7 w8 w9 w10 w11 w12 w13 w14 g15 w16 g17 w18 w19 g20 w21 g22 g23 g24 w25 w26 w27 g28 g29 w30 g31 g32 g33 fq fm fn)) hC V ⟨(Nat.le_of_ble_eq_true rfl), (Nat.le_of_ble_eq_true rfl)⟩ ⟨(-2), fq, fm, fn, rfl, rfl, (by first | exact nw_1 (by assumption) | exact nw_2 (by assumption)), h_rs, h_rm, (NM_n (z := -2) (fq := fq) (fm := fm) (fn := fn) (by first | exact nw_1 (by assumption) | exact nw_2 (by assumption)) m2_0).1, (NM_n (z := -2) (fq := fq) (fm := fm) (fn := fn) (by first | exact nw_1 (by assumption) | exact nw_2 (by assumption)) m2_0).2.1, (NM_n (z := -2) (fq := fq) (fm := fm) (fn := fn) (by first | exact nw_1 (by assumption) | exact nw_2 (by assumption)) m2_0).2.2⟩ dX8_numbers_31
  · have V : gW D T A s [(o, .inr (8, [.int (nI 0), .ref g1, .ref g2, .ref g3, .ref g4, .int (nI tp), .int w6, .int w7, .int w8, .int w9, .int w10, .int w11, .int w12, .int w13, .int w14, .ref g15, .int w16, .ref g17, .int w18, .int w19, .ref g20, .int w21, .ref g22, .ref g23, .ref g24, .int w25, .int w26, .int w27, .ref g28, .ref g29, .int w30, .ref g31, .ref g32, .ref g33])), (g31, .inl (T 0, 4, .inl fq)), (g32, .inl (T 0, 4, .inl fm)), (g33, .inl (T 1, 160, .inr (.inl fn)))] H locs := V _ [] rfl rfl rfl (by decide +kernel) rfl
    show W p l e _ s m args below meth c H locs _ _ _ (F0 m 14 ls [.int (nI 0)])
    have r0 : (row < 0 ∨ nI 4 ≤ row) := nv_r rfl (by decide) f_3
    refine lv_if_eq (tgt := 29) hx hb dX8_numbers_14 (by decide) (fun _ => ?_) (fun c => absurd (show (nI 0) = 0 by decide +kernel) c)
    refine lv_bipush (v := (-2)) hx hb dX8_numbers_29 (by decide +kernel) ?_
    exact g_iret (Qr := (q_m_numbers_f T o row so n_ w0 g1 g2 g3 g4 tp w6 w7 w8 w9 w10 w11 w12 w13 w14 g15 w16 g17 w18 w19 g20 w21 g22 g23 g24 w25 w26 w27 g28 g29 w30 g31 g32 g33 fq fm fn)) hC V ⟨(Nat.le_of_ble_eq_true rfl), (Nat.le_of_ble_eq_true rfl)⟩ ⟨(-2), fq, fm, fn, rfl, rfl, (by first | exact nw_1 (by assumption) | exact nw_2 (by assumption)), h_rs, h_rm, (NM_n (z := -2) (fq := fq) (fm := fm) (fn := fn) (by first | exact nw_1 (by assumption) | exact nw_2 (by assumption)) m2_0).1, (NM_n (z := -2) (fq := fq) (fm := fm) (fn := fn) (by first | exact nw_1 (by assumption) | exact nw_2 (by assumption)) m2_0).2.1, (NM_n (z := -2) (fq := fq) (fm := fm) (fn := fn) (by first | exact nw_1 (by assumption) | exact nw_2 (by assumption)) m2_0).2.2⟩ dX8_numbers_31

def q_x_write_f (T : Nat → ClassId) (fq : Nat → Int32) (fm : Nat → Int32) (fn : Nat → Int64) (o : Nat) (row : Int32) (i : Int32) (vv : Int64) (n0 : Nat) (s0 : Nat) (im : Nat) (iz : Nat) (rw : Nat) (t0 : Nat) (u0 : Nat) (h0 : Nat) (y0 : Nat) (sv : Value) (ra0 : Nat) (rb0 : Nat) (rc0 : Nat) (rd0 : Nat) (rah : Int32) (raz : Nat) (ra1 : Nat) (ras : Nat) (raf : Nat → Int64) (rbh : Int32) (rbz : Nat) (rb1 : Nat) (rbs : Nat) (rbf : Nat → Int64) (rch : Int32) (rcz : Nat) (rc1 : Nat) (rcs : Nat) (rcf : Nat → Int64) (rdh : Int32) (rdz : Nat) (rd1 : Nat) (rds : Nat) (rdf : Nat → Int64) : Option Value → va_W → Prop := fun rr ww => (∃ (z : Int64) (raF : Nat → Int64) (rbF : Nat → Int64) (rcF : Nat → Int64) (rdF : Nat → Int64), rr = some (.long z) ∧ ww = [(o, .inr (7, [.ref n0, .ref s0, .ref im, .ref iz, .ref rw, .ref t0, .ref u0, .ref h0, .ref y0, sv])), (rw, .inl (T 5, 4, .inr (.inr (.inr (.inr (va_up (va_up (va_up (va_up (fun _ => none) 0 (some ra0)) 1 (some rb0)) 2 (some rc0)) 3 (some rd0))))))), (ra0, .inr (1, [.int rah, .int (nI raz), .ref ra1, .int (nI ras)])), (ra1, .inl (T 1, 40, .inr (.inl raF))), (rb0, .inr (1, [.int rbh, .int (nI rbz), .ref rb1, .int (nI rbs)])), (rb1, .inl (T 1, 40, .inr (.inl rbF))), (rc0, .inr (1, [.int rch, .int (nI rcz), .ref rc1, .int (nI rcs)])), (rc1, .inl (T 1, 40, .inr (.inl rcF))), (rd0, .inr (1, [.int rdh, .int (nI rdz), .ref rd1, .int (nI rds)])), (rd1, .inl (T 1, 40, .inr (.inl rdF)))] ∧ z = wrA fq fm row i vv ∧ RW 0 rah raz ras raF fq fm (wrN fn fq fm row i vv) ∧ RW 1 rbh rbz rbs rbF fq fm (wrN fn fq fm row i vv) ∧ RW 2 rch rcz rcs rcF fq fm (wrN fn fq fm row i vv) ∧ RW 3 rdh rdz rds rdF fq fm (wrN fn fq fm row i vv))
set_option maxHeartbeats 4000000 in
set_option maxRecDepth 100000 in
theorem x_write_f (l : Launch) (D : va_G) (T : Nat → ClassId) (fq : Nat → Int32) (fm : Nat → Int32) (fn : Nat → Int64) (o : Nat) (row : Int32) (i : Int32) (vv : Int64) (n0 : Nat) (s0 : Nat) (im : Nat) (iz : Nat) (rw : Nat) (t0 : Nat) (u0 : Nat) (h0 : Nat) (y0 : Nat) (sv : Value) (ra0 : Nat) (rb0 : Nat) (rc0 : Nat) (rd0 : Nat) (rah : Int32) (raz : Nat) (ra1 : Nat) (ras : Nat) (raf : Nat → Int64) (rbh : Int32) (rbz : Nat) (rb1 : Nat) (rbs : Nat) (rbf : Nat → Int64) (rch : Int32) (rcz : Nat) (rc1 : Nat) (rcs : Nat) (rcf : Nat → Int64) (rdh : Int32) (rdz : Nat) (rd1 : Nat) (rds : Nat) (rdf : Nat → Int64) (h_zra : raz ≤ 40) (h_zrb : rbz ≤ 40) (h_zrc : rcz ≤ 40) (h_zrd : rdz ≤ 40) (h_sra : ras ≤ 3) (h_srb : rbs ≤ 3) (h_src : rcs ≤ 3) (h_srd : rds ≤ 3) (h_r0 : RW 0 rah raz ras raf fq fm fn) (h_r1 : RW 1 rbh rbz rbs rbf fq fm fn) (h_r2 : RW 2 rch rcz rcs rcf fq fm fn) (h_r3 : RW 3 rdh rdz rds rdf fq fm fn) : Ct l yX7_write cX7_write 6 (some .long) 2 0 0 D T [.ref o, .int row, .int i, .long vv] [(o, .inr (7, [.ref n0, .ref s0, .ref im, .ref iz, .ref rw, .ref t0, .ref u0, .ref h0, .ref y0, sv])), (rw, .inl (T 5, 4, .inr (.inr (.inr (.inr (va_up (va_up (va_up (va_up (fun _ => none) 0 (some ra0)) 1 (some rb0)) 2 (some rc0)) 3 (some rd0))))))), (ra0, .inr (1, [.int rah, .int (nI raz), .ref ra1, .int (nI ras)])), (ra1, .inl (T 1, 40, .inr (.inl raf))), (rb0, .inr (1, [.int rbh, .int (nI rbz), .ref rb1, .int (nI rbs)])), (rb1, .inl (T 1, 40, .inr (.inl rbf))), (rc0, .inr (1, [.int rch, .int (nI rcz), .ref rc1, .int (nI rcs)])), (rc1, .inl (T 1, 40, .inr (.inl rcf))), (rd0, .inr (1, [.int rdh, .int (nI rdz), .ref rd1, .int (nI rds)])), (rd1, .inl (T 1, 40, .inr (.inl rdf)))] (q_x_write_f T fq fm fn o row i vv n0 s0 im iz rw t0 u0 h0 y0 sv ra0 rb0 rc0 rd0 rah raz ra1 ras raf rbh rbz rb1 rbs rbf rch rcz rc1 rcs rcf rdh rdz rd1 rds rdf) := by
  refine Ct.of (cc := cX7_write) (maxL := 6) (ret := (some .long)) (by decide) (Nat.le_of_ble_eq_true rfl) ?_
  intro p e s m args below meth c A ls hC hnm V hl
  obtain ⟨hx, hb, hr, hml, hown, hts, hlocks⟩ := id hC
  generalize hH : s.heap = H at V ⊢
  clear hH
  have hl : lv_has ls 6 [(0, .ref o), (1, .int row), (2, .int i), (3, .long vv)] := hl
  generalize hlo : ([] : List Loc) = locs at V ⊢
  clear hlo
  refine lv_aload_n hx hb dX7_write_0 rfl (lv_at hl 0 rfl) ?_
  refine lv_iload_n hx hb dX7_write_1 rfl (lv_at hl 1 rfl) ?_
  refine g_callV (wr := []) (nA := 1) hC V hl.1 (x_refusedRow l D T o row n0 s0 im iz rw t0 u0 h0 y0 sv ra0 rb0 rc0 rd0 rah raz ra1 ras raf rbh rbz rb1 rbs rbf rch rcz rc1 rcs rcf rdh rdz rd1 rds rdf) w_524 w_526 w_s11 w_2 w_527 (by decide +kernel) rfl ⟨(Nat.le_of_ble_eq_true rfl), (Nat.le_of_ble_eq_true rfl)⟩ 0 (ci := 7) rfl rfl [0, 1, 2, 3, 4, 5, 6, 7, 8, 9] [] rfl rfl rfl rfl (by decide) (Nat.le_of_ble_eq_true rfl) dX7_write_2 ⟨(Nat.le_of_ble_eq_true rfl), (Nat.le_of_ble_eq_true rfl)⟩ rfl (fun r w1 H locs hQ V => ?_)
  rcases hQ with ⟨rfl, rfl, f_1, f_2, f_3, f_4, f_5, f_6⟩ | ⟨z_7, rfl, rfl, f_8, f_9⟩
  · have V : gW D T A s [(o, .inr (7, [.ref n0, .ref s0, .ref im, .ref iz, .ref rw, .ref t0, .ref u0, .ref h0, .ref y0, sv])), (rw, .inl (T 5, 4, .inr (.inr (.inr (.inr (va_up (va_up (va_up (va_up (fun _ => none) 0 (some ra0)) 1 (some rb0)) 2 (some rc0)) 3 (some rd0))))))), (ra0, .inr (1, [.int rah, .int (nI raz), .ref ra1, .int (nI ras)])), (ra1, .inl (T 1, 40, .inr (.inl raf))), (rb0, .inr (1, [.int rbh, .int (nI rbz), .ref rb1, .int (nI rbs)])), (rb1, .inl (T 1, 40, .inr (.inl rbf))), (rc0, .inr (1, [.int rch, .int (nI rcz), .ref rc1, .int (nI rcs)])), (rc1, .inl (T 1, 40, .inr (.inl rcf))), (rd0, .inr (1, [.int rdh, .int (nI rdz), .ref rd1, .int (nI rds)])), (rd1, .inl (T 1, 40, .inr (.inl rdf)))] H locs := V
    show W p l e _ s m args below meth c H locs _ _ _ (F0 m 5 ls [.int (nI 0)])
    obtain ⟨j_10, hj_10, ej_10⟩ := g_idx (n := 4) (by decide) f_1 f_2
    rw [ej_10] at hl
    have hj_10 : j_10 = 0 ∨ j_10 = 1 ∨ j_10 = 2 ∨ j_10 = 3 := by omega
    rcases hj_10 with rfl | rfl | rfl | rfl
    · have hRk := RW_y h_r0 (f_3 ej_10)
      refine lv_istore (lv' := [(5, .int (nI 0)), (0, .ref o), (1, .int (nI 0)), (2, .int i), (3, .long vv)]) hx hb dX7_write_5 hl (by decide) rfl (fun ls hl => ?_)
      refine lv_iload hx hb dX7_write_7 (lv_at hl 0 rfl) ?_
      refine lv_if_eq (tgt := 16) hx hb dX7_write_9 (by decide) (fun _ => ?_) (fun c => absurd (show (nI 0) = 0 by decide +kernel) c)
      refine lv_iload_n hx hb dX7_write_16 rfl (lv_at hl 3 rfl) ?_
      refine lv_iconst (v := (nI 0)) hx hb dX7_write_17 (by decide +kernel) ?_
      refine lv_aload_n hx hb dX7_write_18 rfl (lv_at hl 1 rfl) ?_
      refine g_get hC V (ci := 7) uwX7 0 rfl rfl 4 (by decide) w_253 rfl rfl dX7_write_19 ?_
      refine lv_iload_n hx hb dX7_write_22 rfl (lv_at hl 2 rfl) ?_
      refine g_aald hC V 1 5 rfl rfl (vp_in_nI (by decide) (by decide)) (v := .ref ra0) (by rw [nI_clamp (by decide)]; rfl) dX7_write_23 ?_
      refine g_get hC V (ci := 1) uwX1 2 rfl rfl 1 (by decide) w_232 rfl rfl dX7_write_24 ?_
      refine lv_iconst (v := (nI 1)) hx hb dX7_write_27 (by decide +kernel) ?_
      refine lv_isub hx hb dX7_write_28 ?_
      refine g_callSU (nA := 3) hC V hl.1 (c_isWithin l D T i (nI 0) ((nI raz) - (nI 1))) w_292 w_293 w_2 w_294 (by decide +kernel) rfl ⟨(Nat.le_of_ble_eq_true rfl), (Nat.le_of_ble_eq_true rfl)⟩ [] rfl rfl (Nat.le_of_ble_eq_true rfl) dX7_write_29 ⟨(Nat.le_of_ble_eq_true rfl), (Nat.le_of_ble_eq_true rfl)⟩ rfl (fun r w1 H locs hQ V => ?_)
      rcases hQ with ⟨rfl, rfl, f_11, f_12⟩ | ⟨rfl, rfl, f_13⟩
      · have V : gW D T A s [(o, .inr (7, [.ref n0, .ref s0, .ref im, .ref iz, .ref rw, .ref t0, .ref u0, .ref h0, .ref y0, sv])), (rw, .inl (T 5, 4, .inr (.inr (.inr (.inr (va_up (va_up (va_up (va_up (fun _ => none) 0 (some ra0)) 1 (some rb0)) 2 (some rc0)) 3 (some rd0))))))), (ra0, .inr (1, [.int rah, .int (nI raz), .ref ra1, .int (nI ras)])), (ra1, .inl (T 1, 40, .inr (.inl raf))), (rb0, .inr (1, [.int rbh, .int (nI rbz), .ref rb1, .int (nI rbs)])), (rb1, .inl (T 1, 40, .inr (.inl rbf))), (rc0, .inr (1, [.int rch, .int (nI rcz), .ref rc1, .int (nI rcs)])), (rc1, .inl (T 1, 40, .inr (.inl rcf))), (rd0, .inr (1, [.int rdh, .int (nI rdz), .ref rd1, .int (nI rds)])), (rd1, .inl (T 1, 40, .inr (.inl rdf)))] H locs := V _ [] rfl rfl rfl (by decide +kernel) rfl
        show W p l e _ s m args below meth c H locs _ _ _ (F0 m 32 ls [.int (nI 1)])
        obtain ⟨ji, hji, eji⟩ := pred_bd40 (by assumption) f_11 f_12
        rw [eji] at hl
        refine lv_if_ne (tgt := 39) hx hb dX7_write_32 (by decide) (fun _ => ?_) (fun c => absurd (show (nI 1) = 0 from c) (by decide +kernel))
        refine lv_aload_n hx hb dX7_write_39 rfl (lv_at hl 1 rfl) ?_
        refine g_get hC V (ci := 7) uwX7 0 rfl rfl 4 (by decide) w_253 rfl rfl dX7_write_40 ?_
        refine lv_iload_n hx hb dX7_write_43 rfl (lv_at hl 2 rfl) ?_
        refine g_aald hC V 1 5 rfl rfl (vp_in_nI (by decide) (by decide)) (v := .ref ra0) (by rw [nI_clamp (by decide)]; rfl) dX7_write_44 ?_
        refine lv_iload_n hx hb dX7_write_45 rfl (lv_at hl 3 rfl) ?_
        refine lv_lload_n hx hb dX7_write_46 rfl (lv_at hl 4 rfl) ?_
        refine g_callVU (nA := 2) hC V hl.1 (r_put l D T ra0 ji vv rah raz ra1 ras raf (by first | assumption | omega) (by first | assumption | omega)) w_871 w_872 w_873 w_8 w_874 (by decide +kernel) rfl ⟨(Nat.le_of_ble_eq_true rfl), (Nat.le_of_ble_eq_true rfl)⟩ 2 (ci := 1) rfl rfl [2, 3] rfl rfl (Nat.le_of_ble_eq_true rfl) dX7_write_47 ⟨(Nat.le_of_ble_eq_true rfl), (Nat.le_of_ble_eq_true rfl)⟩ rfl (fun r w1 H locs hQ V => ?_)
        obtain ⟨rfl, rfl⟩ := hQ
        have V : gW D T A s [(o, .inr (7, [.ref n0, .ref s0, .ref im, .ref iz, .ref rw, .ref t0, .ref u0, .ref h0, .ref y0, sv])), (rw, .inl (T 5, 4, .inr (.inr (.inr (.inr (va_up (va_up (va_up (va_up (fun _ => none) 0 (some ra0)) 1 (some rb0)) 2 (some rc0)) 3 (some rd0))))))), (ra0, .inr (1, [.int rah, .int (nI raz), .ref ra1, .int (nI ras)])), (ra1, .inl (T 1, 40, .inr (.inl (vp_updL raf ji (cutv ras vv))))), (rb0, .inr (1, [.int rbh, .int (nI rbz), .ref rb1, .int (nI rbs)])), (rb1, .inl (T 1, 40, .inr (.inl rbf))), (rc0, .inr (1, [.int rch, .int (nI rcz), .ref rc1, .int (nI rcs)])), (rc1, .inl (T 1, 40, .inr (.inl rcf))), (rd0, .inr (1, [.int rdh, .int (nI rdz), .ref rd1, .int (nI rds)])), (rd1, .inl (T 1, 40, .inr (.inl rdf)))] H locs := V _ [2, 0] rfl rfl rfl (by decide +kernel) rfl
        show W p l e _ s m args below meth c H locs _ _ _ (F0 m 50 ls [])
        refine lv_aload_n hx hb dX7_write_50 rfl (lv_at hl 1 rfl) ?_
        refine g_get hC V (ci := 7) uwX7 0 rfl rfl 4 (by decide) w_253 rfl rfl dX7_write_51 ?_
        refine lv_iload_n hx hb dX7_write_54 rfl (lv_at hl 2 rfl) ?_
        refine g_aald hC V 1 5 rfl rfl (vp_in_nI (by decide) (by decide)) (v := .ref ra0) (by rw [nI_clamp (by decide)]; rfl) dX7_write_55 ?_
        refine g_get hC V (ci := 1) uwX1 2 rfl rfl 2 (by decide) w_237 rfl rfl dX7_write_56 ?_
        refine lv_iload_n hx hb dX7_write_59 rfl (lv_at hl 3 rfl) ?_
        refine g_lald hC V 3 rfl (vp_in_nI (by omega) (by omega)) (v := ((vp_updL raf ji (cutv ras vv)) ji)) (congrArg _ (nI_clamp (by omega))) dX7_write_60 ?_
        exact g_lret (Qr := (q_x_write_f T fq fm fn o row i vv n0 s0 im iz rw t0 u0 h0 y0 sv ra0 rb0 rc0 rd0 rah raz ra1 ras raf rbh rbz rb1 rbs rbf rch rcz rc1 rcs rcf rdh rdz rd1 rds rdf)) hC V ⟨(Nat.le_of_ble_eq_true rfl), (Nat.le_of_ble_eq_true rfl)⟩ ⟨((vp_updL raf ji (cutv ras vv)) ji), (vp_updL raf ji (cutv ras vv)), rbf, rcf, rdf, rfl, rfl, (upL_same.trans (wr_y (fn := fn) (v := vv) ej_10 (by decide) hRk.1 (by omega) hRk.2.1 f_11 f_12 eji (by omega)).1), (by rw [← (wr_y (fn := fn) (v := vv) ej_10 (by decide) hRk.1 (by omega) hRk.2.1 f_11 f_12 eji (by omega)).2]; exact RW_ws h_r0), (by rw [← (wr_y (fn := fn) (v := vv) ej_10 (by decide) hRk.1 (by omega) hRk.2.1 f_11 f_12 eji (by omega)).2]; exact RW_wo h_r1 (by decide) (by omega) (by omega)), (by rw [← (wr_y (fn := fn) (v := vv) ej_10 (by decide) hRk.1 (by omega) hRk.2.1 f_11 f_12 eji (by omega)).2]; exact RW_wo h_r2 (by decide) (by omega) (by omega)), (by rw [← (wr_y (fn := fn) (v := vv) ej_10 (by decide) hRk.1 (by omega) hRk.2.1 f_11 f_12 eji (by omega)).2]; exact RW_wo h_r3 (by decide) (by omega) (by omega))⟩ dX7_write_61
      · have V : gW D T A s [(o, .inr (7, [.ref n0, .ref s0, .ref im, .ref iz, .ref rw, .ref t0, .ref u0, .ref h0, .ref y0, sv])), (rw, .inl (T 5, 4, .inr (.inr (.inr (.inr (va_up (va_up (va_up (va_up (fun _ => none) 0 (some ra0)) 1 (some rb0)) 2 (some rc0)) 3 (some rd0))))))), (ra0, .inr (1, [.int rah, .int (nI raz), .ref ra1, .int (nI ras)])), (ra1, .inl (T 1, 40, .inr (.inl raf))), (rb0, .inr (1, [.int rbh, .int (nI rbz), .ref rb1, .int (nI rbs)])), (rb1, .inl (T 1, 40, .inr (.inl rbf))), (rc0, .inr (1, [.int rch, .int (nI rcz), .ref rc1, .int (nI rcs)])), (rc1, .inl (T 1, 40, .inr (.inl rcf))), (rd0, .inr (1, [.int rdh, .int (nI rdz), .ref rd1, .int (nI rds)])), (rd1, .inl (T 1, 40, .inr (.inl rdf)))] H locs := V _ [] rfl rfl rfl (by decide +kernel) rfl
        show W p l e _ s m args below meth c H locs _ _ _ (F0 m 32 ls [.int (nI 0)])
        refine lv_if_ne (tgt := 39) hx hb dX7_write_32 (by decide) (fun c => absurd (show (nI 0) = 0 by decide +kernel) c) (fun _ => ?_)
        refine lv_ldc2 (v := (-7)) hx hb hown (hts _ w_870) dX7_write_35 ?_
        exact g_lret (Qr := (q_x_write_f T fq fm fn o row i vv n0 s0 im iz rw t0 u0 h0 y0 sv ra0 rb0 rc0 rd0 rah raz ra1 ras raf rbh rbz rb1 rbs rbf rch rcz rc1 rcs rcf rdh rdz rd1 rds rdf)) hC V ⟨(Nat.le_of_ble_eq_true rfl), (Nat.le_of_ble_eq_true rfl)⟩ ⟨(-7), raf, rbf, rcf, rdf, rfl, rfl, (wr_7 (fn := fn) (v := vv) ej_10 (by decide) (fun q => m1_ne _ (by omega) (hRk.1.symm.trans q)) hRk.2.1 f_13).1, (by rw [← (wr_7 (fn := fn) (v := vv) ej_10 (by decide) (fun q => m1_ne _ (by omega) (hRk.1.symm.trans q)) hRk.2.1 f_13).2]; exact h_r0), (by rw [← (wr_7 (fn := fn) (v := vv) ej_10 (by decide) (fun q => m1_ne _ (by omega) (hRk.1.symm.trans q)) hRk.2.1 f_13).2]; exact h_r1), (by rw [← (wr_7 (fn := fn) (v := vv) ej_10 (by decide) (fun q => m1_ne _ (by omega) (hRk.1.symm.trans q)) hRk.2.1 f_13).2]; exact h_r2), (by rw [← (wr_7 (fn := fn) (v := vv) ej_10 (by decide) (fun q => m1_ne _ (by omega) (hRk.1.symm.trans q)) hRk.2.1 f_13).2]; exact h_r3)⟩ dX7_write_38
    · have hRk := RW_y h_r1 (f_4 ej_10)
      refine lv_istore (lv' := [(5, .int (nI 0)), (0, .ref o), (1, .int (nI 1)), (2, .int i), (3, .long vv)]) hx hb dX7_write_5 hl (by decide) rfl (fun ls hl => ?_)
      refine lv_iload hx hb dX7_write_7 (lv_at hl 0 rfl) ?_
      refine lv_if_eq (tgt := 16) hx hb dX7_write_9 (by decide) (fun _ => ?_) (fun c => absurd (show (nI 0) = 0 by decide +kernel) c)
      refine lv_iload_n hx hb dX7_write_16 rfl (lv_at hl 3 rfl) ?_
      refine lv_iconst (v := (nI 0)) hx hb dX7_write_17 (by decide +kernel) ?_
      refine lv_aload_n hx hb dX7_write_18 rfl (lv_at hl 1 rfl) ?_
      refine g_get hC V (ci := 7) uwX7 0 rfl rfl 4 (by decide) w_253 rfl rfl dX7_write_19 ?_
      refine lv_iload_n hx hb dX7_write_22 rfl (lv_at hl 2 rfl) ?_
      refine g_aald hC V 1 5 rfl rfl (vp_in_nI (by decide) (by decide)) (v := .ref rb0) (by rw [nI_clamp (by decide)]; rfl) dX7_write_23 ?_
      refine g_get hC V (ci := 1) uwX1 4 rfl rfl 1 (by decide) w_232 rfl rfl dX7_write_24 ?_
      refine lv_iconst (v := (nI 1)) hx hb dX7_write_27 (by decide +kernel) ?_
      refine lv_isub hx hb dX7_write_28 ?_
      refine g_callSU (nA := 3) hC V hl.1 (c_isWithin l D T i (nI 0) ((nI rbz) - (nI 1))) w_292 w_293 w_2 w_294 (by decide +kernel) rfl ⟨(Nat.le_of_ble_eq_true rfl), (Nat.le_of_ble_eq_true rfl)⟩ [] rfl rfl (Nat.le_of_ble_eq_true rfl) dX7_write_29 ⟨(Nat.le_of_ble_eq_true rfl), (Nat.le_of_ble_eq_true rfl)⟩ rfl (fun r w1 H locs hQ V => ?_)
      rcases hQ with ⟨rfl, rfl, f_14, f_15⟩ | ⟨rfl, rfl, f_16⟩
      · have V : gW D T A s [(o, .inr (7, [.ref n0, .ref s0, .ref im, .ref iz, .ref rw, .ref t0, .ref u0, .ref h0, .ref y0, sv])), (rw, .inl (T 5, 4, .inr (.inr (.inr (.inr (va_up (va_up (va_up (va_up (fun _ => none) 0 (some ra0)) 1 (some rb0)) 2 (some rc0)) 3 (some rd0))))))), (ra0, .inr (1, [.int rah, .int (nI raz), .ref ra1, .int (nI ras)])), (ra1, .inl (T 1, 40, .inr (.inl raf))), (rb0, .inr (1, [.int rbh, .int (nI rbz), .ref rb1, .int (nI rbs)])), (rb1, .inl (T 1, 40, .inr (.inl rbf))), (rc0, .inr (1, [.int rch, .int (nI rcz), .ref rc1, .int (nI rcs)])), (rc1, .inl (T 1, 40, .inr (.inl rcf))), (rd0, .inr (1, [.int rdh, .int (nI rdz), .ref rd1, .int (nI rds)])), (rd1, .inl (T 1, 40, .inr (.inl rdf)))] H locs := V _ [] rfl rfl rfl (by decide +kernel) rfl
        show W p l e _ s m args below meth c H locs _ _ _ (F0 m 32 ls [.int (nI 1)])
        obtain ⟨ji, hji, eji⟩ := pred_bd40 (by assumption) f_14 f_15
        rw [eji] at hl
        refine lv_if_ne (tgt := 39) hx hb dX7_write_32 (by decide) (fun _ => ?_) (fun c => absurd (show (nI 1) = 0 from c) (by decide +kernel))
        refine lv_aload_n hx hb dX7_write_39 rfl (lv_at hl 1 rfl) ?_
        refine g_get hC V (ci := 7) uwX7 0 rfl rfl 4 (by decide) w_253 rfl rfl dX7_write_40 ?_
        refine lv_iload_n hx hb dX7_write_43 rfl (lv_at hl 2 rfl) ?_
        refine g_aald hC V 1 5 rfl rfl (vp_in_nI (by decide) (by decide)) (v := .ref rb0) (by rw [nI_clamp (by decide)]; rfl) dX7_write_44 ?_
        refine lv_iload_n hx hb dX7_write_45 rfl (lv_at hl 3 rfl) ?_
        refine lv_lload_n hx hb dX7_write_46 rfl (lv_at hl 4 rfl) ?_
        refine g_callVU (nA := 2) hC V hl.1 (r_put l D T rb0 ji vv rbh rbz rb1 rbs rbf (by first | assumption | omega) (by first | assumption | omega)) w_871 w_872 w_873 w_8 w_874 (by decide +kernel) rfl ⟨(Nat.le_of_ble_eq_true rfl), (Nat.le_of_ble_eq_true rfl)⟩ 4 (ci := 1) rfl rfl [4, 5] rfl rfl (Nat.le_of_ble_eq_true rfl) dX7_write_47 ⟨(Nat.le_of_ble_eq_true rfl), (Nat.le_of_ble_eq_true rfl)⟩ rfl (fun r w1 H locs hQ V => ?_)
        obtain ⟨rfl, rfl⟩ := hQ
        have V : gW D T A s [(o, .inr (7, [.ref n0, .ref s0, .ref im, .ref iz, .ref rw, .ref t0, .ref u0, .ref h0, .ref y0, sv])), (rw, .inl (T 5, 4, .inr (.inr (.inr (.inr (va_up (va_up (va_up (va_up (fun _ => none) 0 (some ra0)) 1 (some rb0)) 2 (some rc0)) 3 (some rd0))))))), (ra0, .inr (1, [.int rah, .int (nI raz), .ref ra1, .int (nI ras)])), (ra1, .inl (T 1, 40, .inr (.inl raf))), (rb0, .inr (1, [.int rbh, .int (nI rbz), .ref rb1, .int (nI rbs)])), (rb1, .inl (T 1, 40, .inr (.inl (vp_updL rbf ji (cutv rbs vv))))), (rc0, .inr (1, [.int rch, .int (nI rcz), .ref rc1, .int (nI rcs)])), (rc1, .inl (T 1, 40, .inr (.inl rcf))), (rd0, .inr (1, [.int rdh, .int (nI rdz), .ref rd1, .int (nI rds)])), (rd1, .inl (T 1, 40, .inr (.inl rdf)))] H locs := V _ [4, 0] rfl rfl rfl (by decide +kernel) rfl
        show W p l e _ s m args below meth c H locs _ _ _ (F0 m 50 ls [])
        refine lv_aload_n hx hb dX7_write_50 rfl (lv_at hl 1 rfl) ?_
        refine g_get hC V (ci := 7) uwX7 0 rfl rfl 4 (by decide) w_253 rfl rfl dX7_write_51 ?_
        refine lv_iload_n hx hb dX7_write_54 rfl (lv_at hl 2 rfl) ?_
        refine g_aald hC V 1 5 rfl rfl (vp_in_nI (by decide) (by decide)) (v := .ref rb0) (by rw [nI_clamp (by decide)]; rfl) dX7_write_55 ?_
        refine g_get hC V (ci := 1) uwX1 4 rfl rfl 2 (by decide) w_237 rfl rfl dX7_write_56 ?_
        refine lv_iload_n hx hb dX7_write_59 rfl (lv_at hl 3 rfl) ?_
        refine g_lald hC V 5 rfl (vp_in_nI (by omega) (by omega)) (v := ((vp_updL rbf ji (cutv rbs vv)) ji)) (congrArg _ (nI_clamp (by omega))) dX7_write_60 ?_
        exact g_lret (Qr := (q_x_write_f T fq fm fn o row i vv n0 s0 im iz rw t0 u0 h0 y0 sv ra0 rb0 rc0 rd0 rah raz ra1 ras raf rbh rbz rb1 rbs rbf rch rcz rc1 rcs rcf rdh rdz rd1 rds rdf)) hC V ⟨(Nat.le_of_ble_eq_true rfl), (Nat.le_of_ble_eq_true rfl)⟩ ⟨((vp_updL rbf ji (cutv rbs vv)) ji), raf, (vp_updL rbf ji (cutv rbs vv)), rcf, rdf, rfl, rfl, (upL_same.trans (wr_y (fn := fn) (v := vv) ej_10 (by decide) hRk.1 (by omega) hRk.2.1 f_14 f_15 eji (by omega)).1), (by rw [← (wr_y (fn := fn) (v := vv) ej_10 (by decide) hRk.1 (by omega) hRk.2.1 f_14 f_15 eji (by omega)).2]; exact RW_wo h_r0 (by decide) (by omega) (by omega)), (by rw [← (wr_y (fn := fn) (v := vv) ej_10 (by decide) hRk.1 (by omega) hRk.2.1 f_14 f_15 eji (by omega)).2]; exact RW_ws h_r1), (by rw [← (wr_y (fn := fn) (v := vv) ej_10 (by decide) hRk.1 (by omega) hRk.2.1 f_14 f_15 eji (by omega)).2]; exact RW_wo h_r2 (by decide) (by omega) (by omega)), (by rw [← (wr_y (fn := fn) (v := vv) ej_10 (by decide) hRk.1 (by omega) hRk.2.1 f_14 f_15 eji (by omega)).2]; exact RW_wo h_r3 (by decide) (by omega) (by omega))⟩ dX7_write_61
      · have V : gW D T A s [(o, .inr (7, [.ref n0, .ref s0, .ref im, .ref iz, .ref rw, .ref t0, .ref u0, .ref h0, .ref y0, sv])), (rw, .inl (T 5, 4, .inr (.inr (.inr (.inr (va_up (va_up (va_up (va_up (fun _ => none) 0 (some ra0)) 1 (some rb0)) 2 (some rc0)) 3 (some rd0))))))), (ra0, .inr (1, [.int rah, .int (nI raz), .ref ra1, .int (nI ras)])), (ra1, .inl (T 1, 40, .inr (.inl raf))), (rb0, .inr (1, [.int rbh, .int (nI rbz), .ref rb1, .int (nI rbs)])), (rb1, .inl (T 1, 40, .inr (.inl rbf))), (rc0, .inr (1, [.int rch, .int (nI rcz), .ref rc1, .int (nI rcs)])), (rc1, .inl (T 1, 40, .inr (.inl rcf))), (rd0, .inr (1, [.int rdh, .int (nI rdz), .ref rd1, .int (nI rds)])), (rd1, .inl (T 1, 40, .inr (.inl rdf)))] H locs := V _ [] rfl rfl rfl (by decide +kernel) rfl
        show W p l e _ s m args below meth c H locs _ _ _ (F0 m 32 ls [.int (nI 0)])
        refine lv_if_ne (tgt := 39) hx hb dX7_write_32 (by decide) (fun c => absurd (show (nI 0) = 0 by decide +kernel) c) (fun _ => ?_)
        refine lv_ldc2 (v := (-7)) hx hb hown (hts _ w_870) dX7_write_35 ?_
        exact g_lret (Qr := (q_x_write_f T fq fm fn o row i vv n0 s0 im iz rw t0 u0 h0 y0 sv ra0 rb0 rc0 rd0 rah raz ra1 ras raf rbh rbz rb1 rbs rbf rch rcz rc1 rcs rcf rdh rdz rd1 rds rdf)) hC V ⟨(Nat.le_of_ble_eq_true rfl), (Nat.le_of_ble_eq_true rfl)⟩ ⟨(-7), raf, rbf, rcf, rdf, rfl, rfl, (wr_7 (fn := fn) (v := vv) ej_10 (by decide) (fun q => m1_ne _ (by omega) (hRk.1.symm.trans q)) hRk.2.1 f_16).1, (by rw [← (wr_7 (fn := fn) (v := vv) ej_10 (by decide) (fun q => m1_ne _ (by omega) (hRk.1.symm.trans q)) hRk.2.1 f_16).2]; exact h_r0), (by rw [← (wr_7 (fn := fn) (v := vv) ej_10 (by decide) (fun q => m1_ne _ (by omega) (hRk.1.symm.trans q)) hRk.2.1 f_16).2]; exact h_r1), (by rw [← (wr_7 (fn := fn) (v := vv) ej_10 (by decide) (fun q => m1_ne _ (by omega) (hRk.1.symm.trans q)) hRk.2.1 f_16).2]; exact h_r2), (by rw [← (wr_7 (fn := fn) (v := vv) ej_10 (by decide) (fun q => m1_ne _ (by omega) (hRk.1.symm.trans q)) hRk.2.1 f_16).2]; exact h_r3)⟩ dX7_write_38
    · have hRk := RW_y h_r2 (f_5 ej_10)
      refine lv_istore (lv' := [(5, .int (nI 0)), (0, .ref o), (1, .int (nI 2)), (2, .int i), (3, .long vv)]) hx hb dX7_write_5 hl (by decide) rfl (fun ls hl => ?_)
      refine lv_iload hx hb dX7_write_7 (lv_at hl 0 rfl) ?_
      refine lv_if_eq (tgt := 16) hx hb dX7_write_9 (by decide) (fun _ => ?_) (fun c => absurd (show (nI 0) = 0 by decide +kernel) c)
      refine lv_iload_n hx hb dX7_write_16 rfl (lv_at hl 3 rfl) ?_
      refine lv_iconst (v := (nI 0)) hx hb dX7_write_17 (by decide +kernel) ?_
      refine lv_aload_n hx hb dX7_write_18 rfl (lv_at hl 1 rfl) ?_
      refine g_get hC V (ci := 7) uwX7 0 rfl rfl 4 (by decide) w_253 rfl rfl dX7_write_19 ?_
      refine lv_iload_n hx hb dX7_write_22 rfl (lv_at hl 2 rfl) ?_
      refine g_aald hC V 1 5 rfl rfl (vp_in_nI (by decide) (by decide)) (v := .ref rc0) (by rw [nI_clamp (by decide)]; rfl) dX7_write_23 ?_
      refine g_get hC V (ci := 1) uwX1 6 rfl rfl 1 (by decide) w_232 rfl rfl dX7_write_24 ?_
      refine lv_iconst (v := (nI 1)) hx hb dX7_write_27 (by decide +kernel) ?_
      refine lv_isub hx hb dX7_write_28 ?_
      refine g_callSU (nA := 3) hC V hl.1 (c_isWithin l D T i (nI 0) ((nI rcz) - (nI 1))) w_292 w_293 w_2 w_294 (by decide +kernel) rfl ⟨(Nat.le_of_ble_eq_true rfl), (Nat.le_of_ble_eq_true rfl)⟩ [] rfl rfl (Nat.le_of_ble_eq_true rfl) dX7_write_29 ⟨(Nat.le_of_ble_eq_true rfl), (Nat.le_of_ble_eq_true rfl)⟩ rfl (fun r w1 H locs hQ V => ?_)
      rcases hQ with ⟨rfl, rfl, f_17, f_18⟩ | ⟨rfl, rfl, f_19⟩
      · have V : gW D T A s [(o, .inr (7, [.ref n0, .ref s0, .ref im, .ref iz, .ref rw, .ref t0, .ref u0, .ref h0, .ref y0, sv])), (rw, .inl (T 5, 4, .inr (.inr (.inr (.inr (va_up (va_up (va_up (va_up (fun _ => none) 0 (some ra0)) 1 (some rb0)) 2 (some rc0)) 3 (some rd0))))))), (ra0, .inr (1, [.int rah, .int (nI raz), .ref ra1, .int (nI ras)])), (ra1, .inl (T 1, 40, .inr (.inl raf))), (rb0, .inr (1, [.int rbh, .int (nI rbz), .ref rb1, .int (nI rbs)])), (rb1, .inl (T 1, 40, .inr (.inl rbf))), (rc0, .inr (1, [.int rch, .int (nI rcz), .ref rc1, .int (nI rcs)])), (rc1, .inl (T 1, 40, .inr (.inl rcf))), (rd0, .inr (1, [.int rdh, .int (nI rdz), .ref rd1, .int (nI rds)])), (rd1, .inl (T 1, 40, .inr (.inl rdf)))] H locs := V _ [] rfl rfl rfl (by decide +kernel) rfl
        show W p l e _ s m args below meth c H locs _ _ _ (F0 m 32 ls [.int (nI 1)])
        obtain ⟨ji, hji, eji⟩ := pred_bd40 (by assumption) f_17 f_18
        rw [eji] at hl
        refine lv_if_ne (tgt := 39) hx hb dX7_write_32 (by decide) (fun _ => ?_) (fun c => absurd (show (nI 1) = 0 from c) (by decide +kernel))
        refine lv_aload_n hx hb dX7_write_39 rfl (lv_at hl 1 rfl) ?_
        refine g_get hC V (ci := 7) uwX7 0 rfl rfl 4 (by decide) w_253 rfl rfl dX7_write_40 ?_
        refine lv_iload_n hx hb dX7_write_43 rfl (lv_at hl 2 rfl) ?_
        refine g_aald hC V 1 5 rfl rfl (vp_in_nI (by decide) (by decide)) (v := .ref rc0) (by rw [nI_clamp (by decide)]; rfl) dX7_write_44 ?_
        refine lv_iload_n hx hb dX7_write_45 rfl (lv_at hl 3 rfl) ?_
        refine lv_lload_n hx hb dX7_write_46 rfl (lv_at hl 4 rfl) ?_
        refine g_callVU (nA := 2) hC V hl.1 (r_put l D T rc0 ji vv rch rcz rc1 rcs rcf (by first | assumption | omega) (by first | assumption | omega)) w_871 w_872 w_873 w_8 w_874 (by decide +kernel) rfl ⟨(Nat.le_of_ble_eq_true rfl), (Nat.le_of_ble_eq_true rfl)⟩ 6 (ci := 1) rfl rfl [6, 7] rfl rfl (Nat.le_of_ble_eq_true rfl) dX7_write_47 ⟨(Nat.le_of_ble_eq_true rfl), (Nat.le_of_ble_eq_true rfl)⟩ rfl (fun r w1 H locs hQ V => ?_)
        obtain ⟨rfl, rfl⟩ := hQ
        have V : gW D T A s [(o, .inr (7, [.ref n0, .ref s0, .ref im, .ref iz, .ref rw, .ref t0, .ref u0, .ref h0, .ref y0, sv])), (rw, .inl (T 5, 4, .inr (.inr (.inr (.inr (va_up (va_up (va_up (va_up (fun _ => none) 0 (some ra0)) 1 (some rb0)) 2 (some rc0)) 3 (some rd0))))))), (ra0, .inr (1, [.int rah, .int (nI raz), .ref ra1, .int (nI ras)])), (ra1, .inl (T 1, 40, .inr (.inl raf))), (rb0, .inr (1, [.int rbh, .int (nI rbz), .ref rb1, .int (nI rbs)])), (rb1, .inl (T 1, 40, .inr (.inl rbf))), (rc0, .inr (1, [.int rch, .int (nI rcz), .ref rc1, .int (nI rcs)])), (rc1, .inl (T 1, 40, .inr (.inl (vp_updL rcf ji (cutv rcs vv))))), (rd0, .inr (1, [.int rdh, .int (nI rdz), .ref rd1, .int (nI rds)])), (rd1, .inl (T 1, 40, .inr (.inl rdf)))] H locs := V _ [6, 0] rfl rfl rfl (by decide +kernel) rfl
        show W p l e _ s m args below meth c H locs _ _ _ (F0 m 50 ls [])
        refine lv_aload_n hx hb dX7_write_50 rfl (lv_at hl 1 rfl) ?_
        refine g_get hC V (ci := 7) uwX7 0 rfl rfl 4 (by decide) w_253 rfl rfl dX7_write_51 ?_
        refine lv_iload_n hx hb dX7_write_54 rfl (lv_at hl 2 rfl) ?_
        refine g_aald hC V 1 5 rfl rfl (vp_in_nI (by decide) (by decide)) (v := .ref rc0) (by rw [nI_clamp (by decide)]; rfl) dX7_write_55 ?_
        refine g_get hC V (ci := 1) uwX1 6 rfl rfl 2 (by decide) w_237 rfl rfl dX7_write_56 ?_
        refine lv_iload_n hx hb dX7_write_59 rfl (lv_at hl 3 rfl) ?_
        refine g_lald hC V 7 rfl (vp_in_nI (by omega) (by omega)) (v := ((vp_updL rcf ji (cutv rcs vv)) ji)) (congrArg _ (nI_clamp (by omega))) dX7_write_60 ?_
        exact g_lret (Qr := (q_x_write_f T fq fm fn o row i vv n0 s0 im iz rw t0 u0 h0 y0 sv ra0 rb0 rc0 rd0 rah raz ra1 ras raf rbh rbz rb1 rbs rbf rch rcz rc1 rcs rcf rdh rdz rd1 rds rdf)) hC V ⟨(Nat.le_of_ble_eq_true rfl), (Nat.le_of_ble_eq_true rfl)⟩ ⟨((vp_updL rcf ji (cutv rcs vv)) ji), raf, rbf, (vp_updL rcf ji (cutv rcs vv)), rdf, rfl, rfl, (upL_same.trans (wr_y (fn := fn) (v := vv) ej_10 (by decide) hRk.1 (by omega) hRk.2.1 f_17 f_18 eji (by omega)).1), (by rw [← (wr_y (fn := fn) (v := vv) ej_10 (by decide) hRk.1 (by omega) hRk.2.1 f_17 f_18 eji (by omega)).2]; exact RW_wo h_r0 (by decide) (by omega) (by omega)), (by rw [← (wr_y (fn := fn) (v := vv) ej_10 (by decide) hRk.1 (by omega) hRk.2.1 f_17 f_18 eji (by omega)).2]; exact RW_wo h_r1 (by decide) (by omega) (by omega)), (by rw [← (wr_y (fn := fn) (v := vv) ej_10 (by decide) hRk.1 (by omega) hRk.2.1 f_17 f_18 eji (by omega)).2]; exact RW_ws h_r2), (by rw [← (wr_y (fn := fn) (v := vv) ej_10 (by decide) hRk.1 (by omega) hRk.2.1 f_17 f_18 eji (by omega)).2]; exact RW_wo h_r3 (by decide) (by omega) (by omega))⟩ dX7_write_61
      · have V : gW D T A s [(o, .inr (7, [.ref n0, .ref s0, .ref im, .ref iz, .ref rw, .ref t0, .ref u0, .ref h0, .ref y0, sv])), (rw, .inl (T 5, 4, .inr (.inr (.inr (.inr (va_up (va_up (va_up (va_up (fun _ => none) 0 (some ra0)) 1 (some rb0)) 2 (some rc0)) 3 (some rd0))))))), (ra0, .inr (1, [.int rah, .int (nI raz), .ref ra1, .int (nI ras)])), (ra1, .inl (T 1, 40, .inr (.inl raf))), (rb0, .inr (1, [.int rbh, .int (nI rbz), .ref rb1, .int (nI rbs)])), (rb1, .inl (T 1, 40, .inr (.inl rbf))), (rc0, .inr (1, [.int rch, .int (nI rcz), .ref rc1, .int (nI rcs)])), (rc1, .inl (T 1, 40, .inr (.inl rcf))), (rd0, .inr (1, [.int rdh, .int (nI rdz), .ref rd1, .int (nI rds)])), (rd1, .inl (T 1, 40, .inr (.inl rdf)))] H locs := V _ [] rfl rfl rfl (by decide +kernel) rfl
        show W p l e _ s m args below meth c H locs _ _ _ (F0 m 32 ls [.int (nI 0)])
        refine lv_if_ne (tgt := 39) hx hb dX7_write_32 (by decide) (fun c => absurd (show (nI 0) = 0 by decide +kernel) c) (fun _ => ?_)
        refine lv_ldc2 (v := (-7)) hx hb hown (hts _ w_870) dX7_write_35 ?_
        exact g_lret (Qr := (q_x_write_f T fq fm fn o row i vv n0 s0 im iz rw t0 u0 h0 y0 sv ra0 rb0 rc0 rd0 rah raz ra1 ras raf rbh rbz rb1 rbs rbf rch rcz rc1 rcs rcf rdh rdz rd1 rds rdf)) hC V ⟨(Nat.le_of_ble_eq_true rfl), (Nat.le_of_ble_eq_true rfl)⟩ ⟨(-7), raf, rbf, rcf, rdf, rfl, rfl, (wr_7 (fn := fn) (v := vv) ej_10 (by decide) (fun q => m1_ne _ (by omega) (hRk.1.symm.trans q)) hRk.2.1 f_19).1, (by rw [← (wr_7 (fn := fn) (v := vv) ej_10 (by decide) (fun q => m1_ne _ (by omega) (hRk.1.symm.trans q)) hRk.2.1 f_19).2]; exact h_r0), (by rw [← (wr_7 (fn := fn) (v := vv) ej_10 (by decide) (fun q => m1_ne _ (by omega) (hRk.1.symm.trans q)) hRk.2.1 f_19).2]; exact h_r1), (by rw [← (wr_7 (fn := fn) (v := vv) ej_10 (by decide) (fun q => m1_ne _ (by omega) (hRk.1.symm.trans q)) hRk.2.1 f_19).2]; exact h_r2), (by rw [← (wr_7 (fn := fn) (v := vv) ej_10 (by decide) (fun q => m1_ne _ (by omega) (hRk.1.symm.trans q)) hRk.2.1 f_19).2]; exact h_r3)⟩ dX7_write_38
    · have hRk := RW_y h_r3 (f_6 ej_10)
      refine lv_istore (lv' := [(5, .int (nI 0)), (0, .ref o), (1, .int (nI 3)), (2, .int i), (3, .long vv)]) hx hb dX7_write_5 hl (by decide) rfl (fun ls hl => ?_)
      refine lv_iload hx hb dX7_write_7 (lv_at hl 0 rfl) ?_
      refine lv_if_eq (tgt := 16) hx hb dX7_write_9 (by decide) (fun _ => ?_) (fun c => absurd (show (nI 0) = 0 by decide +kernel) c)
      refine lv_iload_n hx hb dX7_write_16 rfl (lv_at hl 3 rfl) ?_
      refine lv_iconst (v := (nI 0)) hx hb dX7_write_17 (by decide +kernel) ?_
      refine lv_aload_n hx hb dX7_write_18 rfl (lv_at hl 1 rfl) ?_
      refine g_get hC V (ci := 7) uwX7 0 rfl rfl 4 (by decide) w_253 rfl rfl dX7_write_19 ?_
      refine lv_iload_n hx hb dX7_write_22 rfl (lv_at hl 2 rfl) ?_
      refine g_aald hC V 1 5 rfl rfl (vp_in_nI (by decide) (by decide)) (v := .ref rd0) (by rw [nI_clamp (by decide)]; rfl) dX7_write_23 ?_
      refine g_get hC V (ci := 1) uwX1 8 rfl rfl 1 (by decide) w_232 rfl rfl dX7_write_24 ?_
      refine lv_iconst (v := (nI 1)) hx hb dX7_write_27 (by decide +kernel) ?_
      refine lv_isub hx hb dX7_write_28 ?_
      refine g_callSU (nA := 3) hC V hl.1 (c_isWithin l D T i (nI 0) ((nI rdz) - (nI 1))) w_292 w_293 w_2 w_294 (by decide +kernel) rfl ⟨(Nat.le_of_ble_eq_true rfl), (Nat.le_of_ble_eq_true rfl)⟩ [] rfl rfl (Nat.le_of_ble_eq_true rfl) dX7_write_29 ⟨(Nat.le_of_ble_eq_true rfl), (Nat.le_of_ble_eq_true rfl)⟩ rfl (fun r w1 H locs hQ V => ?_)
      rcases hQ with ⟨rfl, rfl, f_20, f_21⟩ | ⟨rfl, rfl, f_22⟩
      · have V : gW D T A s [(o, .inr (7, [.ref n0, .ref s0, .ref im, .ref iz, .ref rw, .ref t0, .ref u0, .ref h0, .ref y0, sv])), (rw, .inl (T 5, 4, .inr (.inr (.inr (.inr (va_up (va_up (va_up (va_up (fun _ => none) 0 (some ra0)) 1 (some rb0)) 2 (some rc0)) 3 (some rd0))))))), (ra0, .inr (1, [.int rah, .int (nI raz), .ref ra1, .int (nI ras)])), (ra1, .inl (T 1, 40, .inr (.inl raf))), (rb0, .inr (1, [.int rbh, .int (nI rbz), .ref rb1, .int (nI rbs)])), (rb1, .inl (T 1, 40, .inr (.inl rbf))), (rc0, .inr (1, [.int rch, .int (nI rcz), .ref rc1, .int (nI rcs)])), (rc1, .inl (T 1, 40, .inr (.inl rcf))), (rd0, .inr (1, [.int rdh, .int (nI rdz), .ref rd1, .int (nI rds)])), (rd1, .inl (T 1, 40, .inr (.inl rdf)))] H locs := V _ [] rfl rfl rfl (by decide +kernel) rfl
        show W p l e _ s m args below meth c H locs _ _ _ (F0 m 32 ls [.int (nI 1)])
        obtain ⟨ji, hji, eji⟩ := pred_bd40 (by assumption) f_20 f_21
        rw [eji] at hl
        refine lv_if_ne (tgt := 39) hx hb dX7_write_32 (by decide) (fun _ => ?_) (fun c => absurd (show (nI 1) = 0 from c) (by decide +kernel))
        refine lv_aload_n hx hb dX7_write_39 rfl (lv_at hl 1 rfl) ?_
        refine g_get hC V (ci := 7) uwX7 0 rfl rfl 4 (by decide) w_253 rfl rfl dX7_write_40 ?_
        refine lv_iload_n hx hb dX7_write_43 rfl (lv_at hl 2 rfl) ?_
        refine g_aald hC V 1 5 rfl rfl (vp_in_nI (by decide) (by decide)) (v := .ref rd0) (by rw [nI_clamp (by decide)]; rfl) dX7_write_44 ?_
        refine lv_iload_n hx hb dX7_write_45 rfl (lv_at hl 3 rfl) ?_
        refine lv_lload_n hx hb dX7_write_46 rfl (lv_at hl 4 rfl) ?_
        refine g_callVU (nA := 2) hC V hl.1 (r_put l D T rd0 ji vv rdh rdz rd1 rds rdf (by first | assumption | omega) (by first | assumption | omega)) w_871 w_872 w_873 w_8 w_874 (by decide +kernel) rfl ⟨(Nat.le_of_ble_eq_true rfl), (Nat.le_of_ble_eq_true rfl)⟩ 8 (ci := 1) rfl rfl [8, 9] rfl rfl (Nat.le_of_ble_eq_true rfl) dX7_write_47 ⟨(Nat.le_of_ble_eq_true rfl), (Nat.le_of_ble_eq_true rfl)⟩ rfl (fun r w1 H locs hQ V => ?_)
        obtain ⟨rfl, rfl⟩ := hQ
        have V : gW D T A s [(o, .inr (7, [.ref n0, .ref s0, .ref im, .ref iz, .ref rw, .ref t0, .ref u0, .ref h0, .ref y0, sv])), (rw, .inl (T 5, 4, .inr (.inr (.inr (.inr (va_up (va_up (va_up (va_up (fun _ => none) 0 (some ra0)) 1 (some rb0)) 2 (some rc0)) 3 (some rd0))))))), (ra0, .inr (1, [.int rah, .int (nI raz), .ref ra1, .int (nI ras)])), (ra1, .inl (T 1, 40, .inr (.inl raf))), (rb0, .inr (1, [.int rbh, .int (nI rbz), .ref rb1, .int (nI rbs)])), (rb1, .inl (T 1, 40, .inr (.inl rbf))), (rc0, .inr (1, [.int rch, .int (nI rcz), .ref rc1, .int (nI rcs)])), (rc1, .inl (T 1, 40, .inr (.inl rcf))), (rd0, .inr (1, [.int rdh, .int (nI rdz), .ref rd1, .int (nI rds)])), (rd1, .inl (T 1, 40, .inr (.inl (vp_updL rdf ji (cutv rds vv)))))] H locs := V _ [8, 0] rfl rfl rfl (by decide +kernel) rfl
        show W p l e _ s m args below meth c H locs _ _ _ (F0 m 50 ls [])
        refine lv_aload_n hx hb dX7_write_50 rfl (lv_at hl 1 rfl) ?_
        refine g_get hC V (ci := 7) uwX7 0 rfl rfl 4 (by decide) w_253 rfl rfl dX7_write_51 ?_
        refine lv_iload_n hx hb dX7_write_54 rfl (lv_at hl 2 rfl) ?_
        refine g_aald hC V 1 5 rfl rfl (vp_in_nI (by decide) (by decide)) (v := .ref rd0) (by rw [nI_clamp (by decide)]; rfl) dX7_write_55 ?_
        refine g_get hC V (ci := 1) uwX1 8 rfl rfl 2 (by decide) w_237 rfl rfl dX7_write_56 ?_
        refine lv_iload_n hx hb dX7_write_59 rfl (lv_at hl 3 rfl) ?_
        refine g_lald hC V 9 rfl (vp_in_nI (by omega) (by omega)) (v := ((vp_updL rdf ji (cutv rds vv)) ji)) (congrArg _ (nI_clamp (by omega))) dX7_write_60 ?_
        exact g_lret (Qr := (q_x_write_f T fq fm fn o row i vv n0 s0 im iz rw t0 u0 h0 y0 sv ra0 rb0 rc0 rd0 rah raz ra1 ras raf rbh rbz rb1 rbs rbf rch rcz rc1 rcs rcf rdh rdz rd1 rds rdf)) hC V ⟨(Nat.le_of_ble_eq_true rfl), (Nat.le_of_ble_eq_true rfl)⟩ ⟨((vp_updL rdf ji (cutv rds vv)) ji), raf, rbf, rcf, (vp_updL rdf ji (cutv rds vv)), rfl, rfl, (upL_same.trans (wr_y (fn := fn) (v := vv) ej_10 (by decide) hRk.1 (by omega) hRk.2.1 f_20 f_21 eji (by omega)).1), (by rw [← (wr_y (fn := fn) (v := vv) ej_10 (by decide) hRk.1 (by omega) hRk.2.1 f_20 f_21 eji (by omega)).2]; exact RW_wo h_r0 (by decide) (by omega) (by omega)), (by rw [← (wr_y (fn := fn) (v := vv) ej_10 (by decide) hRk.1 (by omega) hRk.2.1 f_20 f_21 eji (by omega)).2]; exact RW_wo h_r1 (by decide) (by omega) (by omega)), (by rw [← (wr_y (fn := fn) (v := vv) ej_10 (by decide) hRk.1 (by omega) hRk.2.1 f_20 f_21 eji (by omega)).2]; exact RW_wo h_r2 (by decide) (by omega) (by omega)), (by rw [← (wr_y (fn := fn) (v := vv) ej_10 (by decide) hRk.1 (by omega) hRk.2.1 f_20 f_21 eji (by omega)).2]; exact RW_ws h_r3)⟩ dX7_write_61
      · have V : gW D T A s [(o, .inr (7, [.ref n0, .ref s0, .ref im, .ref iz, .ref rw, .ref t0, .ref u0, .ref h0, .ref y0, sv])), (rw, .inl (T 5, 4, .inr (.inr (.inr (.inr (va_up (va_up (va_up (va_up (fun _ => none) 0 (some ra0)) 1 (some rb0)) 2 (some rc0)) 3 (some rd0))))))), (ra0, .inr (1, [.int rah, .int (nI raz), .ref ra1, .int (nI ras)])), (ra1, .inl (T 1, 40, .inr (.inl raf))), (rb0, .inr (1, [.int rbh, .int (nI rbz), .ref rb1, .int (nI rbs)])), (rb1, .inl (T 1, 40, .inr (.inl rbf))), (rc0, .inr (1, [.int rch, .int (nI rcz), .ref rc1, .int (nI rcs)])), (rc1, .inl (T 1, 40, .inr (.inl rcf))), (rd0, .inr (1, [.int rdh, .int (nI rdz), .ref rd1, .int (nI rds)])), (rd1, .inl (T 1, 40, .inr (.inl rdf)))] H locs := V _ [] rfl rfl rfl (by decide +kernel) rfl
        show W p l e _ s m args below meth c H locs _ _ _ (F0 m 32 ls [.int (nI 0)])
        refine lv_if_ne (tgt := 39) hx hb dX7_write_32 (by decide) (fun c => absurd (show (nI 0) = 0 by decide +kernel) c) (fun _ => ?_)
        refine lv_ldc2 (v := (-7)) hx hb hown (hts _ w_870) dX7_write_35 ?_
        exact g_lret (Qr := (q_x_write_f T fq fm fn o row i vv n0 s0 im iz rw t0 u0 h0 y0 sv ra0 rb0 rc0 rd0 rah raz ra1 ras raf rbh rbz rb1 rbs rbf rch rcz rc1 rcs rcf rdh rdz rd1 rds rdf)) hC V ⟨(Nat.le_of_ble_eq_true rfl), (Nat.le_of_ble_eq_true rfl)⟩ ⟨(-7), raf, rbf, rcf, rdf, rfl, rfl, (wr_7 (fn := fn) (v := vv) ej_10 (by decide) (fun q => m1_ne _ (by omega) (hRk.1.symm.trans q)) hRk.2.1 f_22).1, (by rw [← (wr_7 (fn := fn) (v := vv) ej_10 (by decide) (fun q => m1_ne _ (by omega) (hRk.1.symm.trans q)) hRk.2.1 f_22).2]; exact h_r0), (by rw [← (wr_7 (fn := fn) (v := vv) ej_10 (by decide) (fun q => m1_ne _ (by omega) (hRk.1.symm.trans q)) hRk.2.1 f_22).2]; exact h_r1), (by rw [← (wr_7 (fn := fn) (v := vv) ej_10 (by decide) (fun q => m1_ne _ (by omega) (hRk.1.symm.trans q)) hRk.2.1 f_22).2]; exact h_r2), (by rw [← (wr_7 (fn := fn) (v := vv) ej_10 (by decide) (fun q => m1_ne _ (by omega) (hRk.1.symm.trans q)) hRk.2.1 f_22).2]; exact h_r3)⟩ dX7_write_38
  · have V : gW D T A s [(o, .inr (7, [.ref n0, .ref s0, .ref im, .ref iz, .ref rw, .ref t0, .ref u0, .ref h0, .ref y0, sv])), (rw, .inl (T 5, 4, .inr (.inr (.inr (.inr (va_up (va_up (va_up (va_up (fun _ => none) 0 (some ra0)) 1 (some rb0)) 2 (some rc0)) 3 (some rd0))))))), (ra0, .inr (1, [.int rah, .int (nI raz), .ref ra1, .int (nI ras)])), (ra1, .inl (T 1, 40, .inr (.inl raf))), (rb0, .inr (1, [.int rbh, .int (nI rbz), .ref rb1, .int (nI rbs)])), (rb1, .inl (T 1, 40, .inr (.inl rbf))), (rc0, .inr (1, [.int rch, .int (nI rcz), .ref rc1, .int (nI rcs)])), (rc1, .inl (T 1, 40, .inr (.inl rcf))), (rd0, .inr (1, [.int rdh, .int (nI rdz), .ref rd1, .int (nI rds)])), (rd1, .inl (T 1, 40, .inr (.inl rdf)))] H locs := V
    show W p l e _ s m args below meth c H locs _ _ _ (F0 m 5 ls [.int z_7])
    refine lv_istore (lv' := [(5, .int z_7), (0, .ref o), (1, .int row), (2, .int i), (3, .long vv)]) hx hb dX7_write_5 hl (by decide) rfl (fun ls hl => ?_)
    refine lv_iload hx hb dX7_write_7 (lv_at hl 0 rfl) ?_
    refine lv_if_eq (tgt := 16) hx hb dX7_write_9 (by decide) (fun c_23 => ?_) (fun c_23 => ?_)
    · skip
      exact (absurd c_23 (by assumption) : False).elim
    · skip
      refine lv_iload hx hb dX7_write_12 (lv_at hl 0 rfl) ?_
      refine lv_i2l (v := z_7.toInt64) hx hb dX7_write_14 rfl ?_
      exact g_lret (Qr := (q_x_write_f T fq fm fn o row i vv n0 s0 im iz rw t0 u0 h0 y0 sv ra0 rb0 rc0 rd0 rah raz ra1 ras raf rbh rbz rb1 rbs rbf rch rcz rc1 rcs rcf rdh rdz rd1 rds rdf)) hC V ⟨(Nat.le_of_ble_eq_true rfl), (Nat.le_of_ble_eq_true rfl)⟩ ⟨z_7.toInt64, raf, rbf, rcf, rdf, rfl, rfl, (wr_r (fn := fn) (fm := fm) (i := i) (v := vv) (f_9.trans (rr_eq (RW_0 h_r0 h_sra) (RW_0 h_r1 h_srb) (RW_0 h_r2 h_src) (RW_0 h_r3 h_srd))) f_8).1, (by rw [← (wr_r (fn := fn) (fm := fm) (i := i) (v := vv) (f_9.trans (rr_eq (RW_0 h_r0 h_sra) (RW_0 h_r1 h_srb) (RW_0 h_r2 h_src) (RW_0 h_r3 h_srd))) f_8).2]; exact h_r0), (by rw [← (wr_r (fn := fn) (fm := fm) (i := i) (v := vv) (f_9.trans (rr_eq (RW_0 h_r0 h_sra) (RW_0 h_r1 h_srb) (RW_0 h_r2 h_src) (RW_0 h_r3 h_srd))) f_8).2]; exact h_r1), (by rw [← (wr_r (fn := fn) (fm := fm) (i := i) (v := vv) (f_9.trans (rr_eq (RW_0 h_r0 h_sra) (RW_0 h_r1 h_srb) (RW_0 h_r2 h_src) (RW_0 h_r3 h_srd))) f_8).2]; exact h_r2), (by rw [← (wr_r (fn := fn) (fm := fm) (i := i) (v := vv) (f_9.trans (rr_eq (RW_0 h_r0 h_sra) (RW_0 h_r1 h_srb) (RW_0 h_r2 h_src) (RW_0 h_r3 h_srd))) f_8).2]; exact h_r3)⟩ dX7_write_15

def q_m_cut_f (T : Nat → ClassId) (v : Int64) (s_ : Int32) : Option Value → va_W → Prop := fun rr ww => (∃ (z : Int64), rr = some (.long z) ∧ ww = [] ∧ z = cutv s_.toNatClampNeg v)
set_option maxHeartbeats 4000000 in
set_option maxRecDepth 100000 in
theorem m_cut_f (l : Launch) (D : va_G) (T : Nat → ClassId) (v : Int64) (s_ : Int32) (h_s : bd s_ 4) : Ct l yX8_cut cX8_cut 3 (some .long) 0 0 0 D T [.long v, .int s_] [] (q_m_cut_f T v s_) := by
  refine Ct.of (cc := cX8_cut) (maxL := 3) (ret := (some .long)) (by decide) (Nat.le_of_ble_eq_true rfl) ?_
  intro p e s m args below meth c A ls hC hnm V hl
  obtain ⟨hx, hb, hr, hml, hown, hts, hlocks⟩ := id hC
  generalize hH : s.heap = H at V ⊢
  clear hH
  have hl : lv_has ls 3 [(0, .long v), (2, .int s_)] := hl
  generalize hlo : ([] : List Loc) = locs at V ⊢
  clear hlo
  refine lv_iload_n hx hb dX8_cut_0 rfl (lv_at hl 1 rfl) ?_
  refine lv_if_ne (tgt := 11) hx hb dX8_cut_1 (by decide) (fun c_1 => ?_) (fun c_1 => ?_)
  · skip
    refine lv_iload_n hx hb dX8_cut_11 rfl (lv_at hl 1 rfl) ?_
    refine lv_iconst (v := (nI 1)) hx hb dX8_cut_12 (by decide +kernel) ?_
    refine lv_icmp_ne (tgt := 23) hx hb dX8_cut_13 (by decide) (fun c_2 => ?_) (fun c_2 => ?_)
    · skip
      refine lv_iload_n hx hb dX8_cut_23 rfl (lv_at hl 1 rfl) ?_
      refine lv_iconst (v := (nI 2)) hx hb dX8_cut_24 (by decide +kernel) ?_
      refine lv_icmp_ne (tgt := 34) hx hb dX8_cut_25 (by decide) (fun c_3 => ?_) (fun c_3 => ?_)
      · skip
        refine lv_lload_n hx hb dX8_cut_34 rfl (lv_at hl 0 rfl) ?_
        exact g_lret (Qr := (q_m_cut_f T v s_)) hC V ⟨(Nat.le_of_ble_eq_true rfl), (Nat.le_of_ble_eq_true rfl)⟩ ⟨v, rfl, rfl, (mc_3 h_s (by assumption) (by assumption) (by assumption))⟩ dX8_cut_35
      · skip
        refine lv_lload_n hx hb dX8_cut_28 rfl (lv_at hl 0 rfl) ?_
        refine lv_l2i hx hb dX8_cut_29 rfl ?_
        refine lv_i2l (v := v.toInt32.toInt64) hx hb dX8_cut_30 rfl ?_
        refine lv_goto (tgt := 35) hx hb dX8_cut_31 (by decide) ?_
        exact g_lret (Qr := (q_m_cut_f T v s_)) hC V ⟨(Nat.le_of_ble_eq_true rfl), (Nat.le_of_ble_eq_true rfl)⟩ ⟨v.toInt32.toInt64, rfl, rfl, (mc_2 (by assumption))⟩ dX8_cut_35
    · skip
      refine lv_lload_n hx hb dX8_cut_16 rfl (lv_at hl 0 rfl) ?_
      refine lv_l2i hx hb dX8_cut_17 rfl ?_
      refine lv_i2s hx hb dX8_cut_18 rfl ?_
      refine lv_i2l (v := ((v.toInt32).toInt16.toInt32).toInt64) hx hb dX8_cut_19 rfl ?_
      refine lv_goto (tgt := 35) hx hb dX8_cut_20 (by decide) ?_
      exact g_lret (Qr := (q_m_cut_f T v s_)) hC V ⟨(Nat.le_of_ble_eq_true rfl), (Nat.le_of_ble_eq_true rfl)⟩ ⟨(((v.toInt32).toInt16.toInt32).toInt64), rfl, rfl, (mc_1 (by assumption))⟩ dX8_cut_35
  · skip
    refine lv_lload_n hx hb dX8_cut_4 rfl (lv_at hl 0 rfl) ?_
    refine lv_l2i hx hb dX8_cut_5 rfl ?_
    refine lv_i2b hx hb dX8_cut_6 rfl ?_
    refine lv_i2l (v := ((v.toInt32).toInt8.toInt32).toInt64) hx hb dX8_cut_7 rfl ?_
    refine lv_goto (tgt := 35) hx hb dX8_cut_8 (by decide) ?_
    exact g_lret (Qr := (q_m_cut_f T v s_)) hC V ⟨(Nat.le_of_ble_eq_true rfl), (Nat.le_of_ble_eq_true rfl)⟩ ⟨(((v.toInt32).toInt8.toInt32).toInt64), rfl, rfl, (mc_0 (by assumption))⟩ dX8_cut_35

def q_m_write_f (T : Nat → ClassId) (o : Nat) (row : Int32) (i : Int32) (vv : Int64) (w0 : Int32) (g1 : Nat) (g2 : Nat) (g3 : Nat) (g4 : Nat) (tp : Nat) (w6 : Int32) (w7 : Int32) (w8 : Int32) (w9 : Int32) (w10 : Int32) (w11 : Int32) (w12 : Int32) (w13 : Int32) (w14 : Int32) (g15 : Nat) (w16 : Int32) (g17 : Nat) (w18 : Int32) (w19 : Int32) (g20 : Nat) (w21 : Int32) (g22 : Nat) (g23 : Nat) (g24 : Nat) (w25 : Int32) (w26 : Int32) (w27 : Int32) (g28 : Nat) (g29 : Nat) (w30 : Int32) (g31 : Nat) (g32 : Nat) (g33 : Nat) (fq : Nat → Int32) (fm : Nat → Int32) (fn : Nat → Int64) : Option Value → va_W → Prop := fun rr ww => (∃ (z : Int64) (gn : Nat → Int64), rr = some (.long z) ∧ ww = [(o, .inr (8, [.int (nI 0), .ref g1, .ref g2, .ref g3, .ref g4, .int (nI tp), .int w6, .int w7, .int w8, .int w9, .int w10, .int w11, .int w12, .int w13, .int w14, .ref g15, .int w16, .ref g17, .int w18, .int w19, .ref g20, .int w21, .ref g22, .ref g23, .ref g24, .int w25, .int w26, .int w27, .ref g28, .ref g29, .int w30, .ref g31, .ref g32, .ref g33])), (g31, .inl (T 0, 4, .inl fq)), (g32, .inl (T 0, 4, .inl fm)), (g33, .inl (T 1, 160, .inr (.inl gn)))] ∧ z = wrA fq fm row i vv ∧ gn = wrN fn fq fm row i vv)
set_option maxHeartbeats 4000000 in
set_option maxRecDepth 100000 in
theorem m_write_f (l : Launch) (D : va_G) (T : Nat → ClassId) (o : Nat) (row : Int32) (i : Int32) (vv : Int64) (w0 : Int32) (g1 : Nat) (g2 : Nat) (g3 : Nat) (g4 : Nat) (tp : Nat) (w6 : Int32) (w7 : Int32) (w8 : Int32) (w9 : Int32) (w10 : Int32) (w11 : Int32) (w12 : Int32) (w13 : Int32) (w14 : Int32) (g15 : Nat) (w16 : Int32) (g17 : Nat) (w18 : Int32) (w19 : Int32) (g20 : Nat) (w21 : Int32) (g22 : Nat) (g23 : Nat) (g24 : Nat) (w25 : Int32) (w26 : Int32) (w27 : Int32) (g28 : Nat) (g29 : Nat) (w30 : Int32) (g31 : Nat) (g32 : Nat) (g33 : Nat) (fq : Nat → Int32) (fm : Nat → Int32) (fn : Nat → Int64) (h_rm : ∀ i, i < 4 → bd (fm i) 41) (h_rs : ∀ i, i < 4 → (fq i = -1 ∨ bd (fq i) 4)) : Ct l yX8_write cX8_write 5 (some .long) 1 0 0 D T [.ref o, .int row, .int i, .long vv] [(o, .inr (8, [.int w0, .ref g1, .ref g2, .ref g3, .ref g4, .int (nI tp), .int w6, .int w7, .int w8, .int w9, .int w10, .int w11, .int w12, .int w13, .int w14, .ref g15, .int w16, .ref g17, .int w18, .int w19, .ref g20, .int w21, .ref g22, .ref g23, .ref g24, .int w25, .int w26, .int w27, .ref g28, .ref g29, .int w30, .ref g31, .ref g32, .ref g33])), (g31, .inl (T 0, 4, .inl fq)), (g32, .inl (T 0, 4, .inl fm)), (g33, .inl (T 1, 160, .inr (.inl fn)))] (q_m_write_f T o row i vv w0 g1 g2 g3 g4 tp w6 w7 w8 w9 w10 w11 w12 w13 w14 g15 w16 g17 w18 w19 g20 w21 g22 g23 g24 w25 w26 w27 g28 g29 w30 g31 g32 g33 fq fm fn) := by
  refine Ct.of (cc := cX8_write) (maxL := 5) (ret := (some .long)) (by decide) (Nat.le_of_ble_eq_true rfl) ?_
  intro p e s m args below meth c A ls hC hnm V hl
  obtain ⟨hx, hb, hr, hml, hown, hts, hlocks⟩ := id hC
  generalize hH : s.heap = H at V ⊢
  clear hH
  have hl : lv_has ls 5 [(0, .ref o), (1, .int row), (2, .int i), (3, .long vv)] := hl
  generalize hlo : ([] : List Loc) = locs at V ⊢
  clear hlo
  refine lv_aload_n hx hb dX8_write_0 rfl (lv_at hl 0 rfl) ?_
  refine lv_iconst (v := (nI 0)) hx hb dX8_write_1 (by decide +kernel) ?_
  refine g_put hC V (ci := 8) uwX8 tyX8 tyX8_ok nmX8 0 rfl rfl 0 (by decide) w_912 rfl rfl rfl rfl (Nat.le_of_ble_eq_true rfl) (ws' := [(o, .inr (8, [.int (nI 0), .ref g1, .ref g2, .ref g3, .ref g4, .int (nI tp), .int w6, .int w7, .int w8, .int w9, .int w10, .int w11, .int w12, .int w13, .int w14, .ref g15, .int w16, .ref g17, .int w18, .int w19, .ref g20, .int w21, .ref g22, .ref g23, .ref g24, .int w25, .int w26, .int w27, .ref g28, .ref g29, .int w30, .ref g31, .ref g32, .ref g33])), (g31, .inl (T 0, 4, .inl fq)), (g32, .inl (T 0, 4, .inl fm)), (g33, .inl (T 1, 160, .inr (.inl fn)))]) rfl dX8_write_2 (fun H locs V => ?_)
  refine lv_iload_n hx hb dX8_write_5 rfl (lv_at hl 1 rfl) ?_
  refine lv_i2l (v := row.toInt64) hx hb dX8_write_6 rfl ?_
  refine lv_lconst (v := (nI 0).toInt64) hx hb dX8_write_7 (by decide +kernel) ?_
  refine lv_ldc2 (v := (3)) hx hb hown (hts _ w_1144) dX8_write_8 ?_
  refine g_vl (y := (nI 3).toInt64) (by decide +kernel) ?_
  refine g_callSU (nA := 3) hC V hl.1 (m_within l D T row (nI 0) (nI 3)) w_1023 w_1024 w_9 w_1025 (by decide +kernel) rfl ⟨(Nat.le_of_ble_eq_true rfl), (Nat.le_of_ble_eq_true rfl)⟩ [] rfl rfl (Nat.le_of_ble_eq_true rfl) dX8_write_11 ⟨(Nat.le_of_ble_eq_true rfl), (Nat.le_of_ble_eq_true rfl)⟩ rfl (fun r w1 H locs hQ V => ?_)
  rcases hQ with ⟨rfl, rfl, f_1, f_2⟩ | ⟨rfl, rfl, f_3⟩
  · have V : gW D T A s [(o, .inr (8, [.int (nI 0), .ref g1, .ref g2, .ref g3, .ref g4, .int (nI tp), .int w6, .int w7, .int w8, .int w9, .int w10, .int w11, .int w12, .int w13, .int w14, .ref g15, .int w16, .ref g17, .int w18, .int w19, .ref g20, .int w21, .ref g22, .ref g23, .ref g24, .int w25, .int w26, .int w27, .ref g28, .ref g29, .int w30, .ref g31, .ref g32, .ref g33])), (g31, .inl (T 0, 4, .inl fq)), (g32, .inl (T 0, 4, .inl fm)), (g33, .inl (T 1, 160, .inr (.inl fn)))] H locs := V _ [] rfl rfl rfl (by decide +kernel) rfl
    show W p l e _ s m args below meth c H locs _ _ _ (F0 m 14 ls [.int (nI 1)])
    obtain ⟨jr, hjr1, hjr2, ejr⟩ := g_rng (by decide) (by decide) f_1 f_2
    rw [ejr] at hl
    obtain ⟨mz, hmz, emz⟩ := h_rm jr (by omega)
    refine lv_if_ne (tgt := 21) hx hb dX8_write_14 (by decide) (fun _ => ?_) (fun c => absurd (show (nI 1) = 0 from c) (by decide +kernel))
    refine lv_aload_n hx hb dX8_write_21 rfl (lv_at hl 0 rfl) ?_
    refine g_get hC V (ci := 8) uwX8 0 rfl rfl 31 (by decide) w_943 rfl rfl dX8_write_22 ?_
    refine lv_iload_n hx hb dX8_write_25 rfl (lv_at hl 1 rfl) ?_
    refine g_iald hC V 1 rfl (vp_in_nI (by omega) (by omega)) (v := (fq jr)) (congrArg _ (nI_clamp (by omega))) dX8_write_26 ?_
    refine lv_iconst (v := (-1)) hx hb dX8_write_27 (by decide +kernel) ?_
    refine lv_icmp_ne (tgt := 35) hx hb dX8_write_28 (by decide) (fun c_4 => ?_) (fun c_4 => ?_)
    · skip
      have hq1 := c_4
      obtain ⟨so, hso, eso⟩ := (h_rs jr (by omega)).resolve_left c_4
      refine lv_iload_n hx hb dX8_write_35 rfl (lv_at hl 2 rfl) ?_
      refine lv_i2l (v := i.toInt64) hx hb dX8_write_36 rfl ?_
      refine lv_lconst (v := (nI 0).toInt64) hx hb dX8_write_37 (by decide +kernel) ?_
      refine lv_aload_n hx hb dX8_write_38 rfl (lv_at hl 0 rfl) ?_
      refine g_get hC V (ci := 8) uwX8 0 rfl rfl 32 (by decide) w_944 rfl rfl dX8_write_39 ?_
      refine lv_iload_n hx hb dX8_write_42 rfl (lv_at hl 1 rfl) ?_
      refine g_iald hC V 2 rfl (vp_in_nI (by omega) (by omega)) (v := (nI mz)) (by rw [nI_clamp (by omega)]; exact emz) dX8_write_43 ?_
      refine lv_iconst (v := (nI 1)) hx hb dX8_write_44 (by decide +kernel) ?_
      refine lv_isub hx hb dX8_write_45 ?_
      refine lv_i2l (v := ((nI mz) - (nI 1)).toInt64) hx hb dX8_write_46 rfl ?_
      refine g_callSU (nA := 3) hC V hl.1 (m_within l D T i (nI 0) ((nI mz) - (nI 1))) w_1023 w_1024 w_9 w_1025 (by decide +kernel) rfl ⟨(Nat.le_of_ble_eq_true rfl), (Nat.le_of_ble_eq_true rfl)⟩ [] rfl rfl (Nat.le_of_ble_eq_true rfl) dX8_write_47 ⟨(Nat.le_of_ble_eq_true rfl), (Nat.le_of_ble_eq_true rfl)⟩ rfl (fun r w1 H locs hQ V => ?_)
      rcases hQ with ⟨rfl, rfl, f_5, f_6⟩ | ⟨rfl, rfl, f_7⟩
      · have V : gW D T A s [(o, .inr (8, [.int (nI 0), .ref g1, .ref g2, .ref g3, .ref g4, .int (nI tp), .int w6, .int w7, .int w8, .int w9, .int w10, .int w11, .int w12, .int w13, .int w14, .ref g15, .int w16, .ref g17, .int w18, .int w19, .ref g20, .int w21, .ref g22, .ref g23, .ref g24, .int w25, .int w26, .int w27, .ref g28, .ref g29, .int w30, .ref g31, .ref g32, .ref g33])), (g31, .inl (T 0, 4, .inl fq)), (g32, .inl (T 0, 4, .inl fm)), (g33, .inl (T 1, 160, .inr (.inl fn)))] H locs := V _ [] rfl rfl rfl (by decide +kernel) rfl
        show W p l e _ s m args below meth c H locs _ _ _ (F0 m 50 ls [.int (nI 1)])
        obtain ⟨ji, hji, eji⟩ := pred_bd40 (by omega) f_5 f_6
        rw [eji] at hl
        refine lv_if_ne (tgt := 57) hx hb dX8_write_50 (by decide) (fun _ => ?_) (fun c => absurd (show (nI 1) = 0 from c) (by decide +kernel))
        refine lv_aload_n hx hb dX8_write_57 rfl (lv_at hl 0 rfl) ?_
        refine g_get hC V (ci := 8) uwX8 0 rfl rfl 33 (by decide) w_945 rfl rfl dX8_write_58 ?_
        refine lv_bipush (v := (nI 40)) hx hb dX8_write_61 (by decide +kernel) ?_
        refine lv_iload_n hx hb dX8_write_63 rfl (lv_at hl 1 rfl) ?_
        refine lv_imul hx hb dX8_write_64 ?_
        refine g_vi (y := (nI (40 * jr))) (pk_mul _ _) ?_
        refine lv_iload_n hx hb dX8_write_65 rfl (lv_at hl 2 rfl) ?_
        refine lv_iadd hx hb dX8_write_66 ?_
        refine g_vi (y := (nI ((40 * jr) + ji))) (nI_add _ _) ?_
        refine lv_lload_n hx hb dX8_write_67 rfl (lv_at hl 3 rfl) ?_
        refine lv_aload_n hx hb dX8_write_68 rfl (lv_at hl 0 rfl) ?_
        refine g_get hC V (ci := 8) uwX8 0 rfl rfl 31 (by decide) w_943 rfl rfl dX8_write_69 ?_
        refine lv_iload_n hx hb dX8_write_72 rfl (lv_at hl 1 rfl) ?_
        refine g_iald hC V 1 rfl (vp_in_nI (by omega) (by omega)) (v := (fq jr)) (congrArg _ (nI_clamp (by omega))) dX8_write_73 ?_
        refine g_callSU (nA := 2) hC V hl.1 (m_cut_f l D T vv (fq jr) ⟨so, hso, eso⟩) w_1384 w_1385 w_9 w_1386 (by decide +kernel) rfl ⟨(Nat.le_of_ble_eq_true rfl), (Nat.le_of_ble_eq_true rfl)⟩ [] rfl rfl (Nat.le_of_ble_eq_true rfl) dX8_write_74 ⟨(Nat.le_of_ble_eq_true rfl), (Nat.le_of_ble_eq_true rfl)⟩ rfl (fun r w1 H locs hQ V => ?_)
        obtain ⟨z_8, rfl, rfl, f_9⟩ := hQ
        have V : gW D T A s [(o, .inr (8, [.int (nI 0), .ref g1, .ref g2, .ref g3, .ref g4, .int (nI tp), .int w6, .int w7, .int w8, .int w9, .int w10, .int w11, .int w12, .int w13, .int w14, .ref g15, .int w16, .ref g17, .int w18, .int w19, .ref g20, .int w21, .ref g22, .ref g23, .ref g24, .int w25, .int w26, .int w27, .ref g28, .ref g29, .int w30, .ref g31, .ref g32, .ref g33])), (g31, .inl (T 0, 4, .inl fq)), (g32, .inl (T 0, 4, .inl fm)), (g33, .inl (T 1, 160, .inr (.inl fn)))] H locs := V _ [] rfl rfl rfl (by decide +kernel) rfl
        show W p l e _ s m args below meth c H locs _ _ _ (F0 m 77 ls [.long z_8, .int (nI ((40 * jr) + ji)), .ref g33])
        have ecz : z_8 = cutv so vv := by rw [f_9, eso, nI_clamp (by omega)]
        refine g_last hC V 3 rfl (vp_in_nI (by omega) (by omega)) (f' := (vp_updL fn ((40 * jr) + ji) z_8)) (by rw [nI_clamp (by omega)]) (ws' := [(o, .inr (8, [.int (nI 0), .ref g1, .ref g2, .ref g3, .ref g4, .int (nI tp), .int w6, .int w7, .int w8, .int w9, .int w10, .int w11, .int w12, .int w13, .int w14, .ref g15, .int w16, .ref g17, .int w18, .int w19, .ref g20, .int w21, .ref g22, .ref g23, .ref g24, .int w25, .int w26, .int w27, .ref g28, .ref g29, .int w30, .ref g31, .ref g32, .ref g33])), (g31, .inl (T 0, 4, .inl fq)), (g32, .inl (T 0, 4, .inl fm)), (g33, .inl (T 1, 160, .inr (.inl (vp_updL fn ((40 * jr) + ji) z_8))))]) rfl dX8_write_77 (fun H locs V => ?_)
        refine lv_aload_n hx hb dX8_write_78 rfl (lv_at hl 0 rfl) ?_
        refine g_get hC V (ci := 8) uwX8 0 rfl rfl 33 (by decide) w_945 rfl rfl dX8_write_79 ?_
        refine lv_bipush (v := (nI 40)) hx hb dX8_write_82 (by decide +kernel) ?_
        refine lv_iload_n hx hb dX8_write_84 rfl (lv_at hl 1 rfl) ?_
        refine lv_imul hx hb dX8_write_85 ?_
        refine g_vi (y := (nI (40 * jr))) (pk_mul _ _) ?_
        refine lv_iload_n hx hb dX8_write_86 rfl (lv_at hl 2 rfl) ?_
        refine lv_iadd hx hb dX8_write_87 ?_
        refine g_vi (y := (nI ((40 * jr) + ji))) (nI_add _ _) ?_
        refine g_lald hC V 3 rfl (vp_in_nI (by omega) (by omega)) (v := ((vp_updL fn ((40 * jr) + ji) z_8) ((40 * jr) + ji))) (congrArg _ (nI_clamp (by omega))) dX8_write_88 ?_
        exact g_lret (Qr := (q_m_write_f T o row i vv w0 g1 g2 g3 g4 tp w6 w7 w8 w9 w10 w11 w12 w13 w14 g15 w16 g17 w18 w19 g20 w21 g22 g23 g24 w25 w26 w27 g28 g29 w30 g31 g32 g33 fq fm fn)) hC V ⟨(Nat.le_of_ble_eq_true rfl), (Nat.le_of_ble_eq_true rfl)⟩ ⟨((vp_updL fn ((40 * jr) + ji) z_8) ((40 * jr) + ji)), (vp_updL fn ((40 * jr) + ji) z_8), rfl, rfl, (by rw [upL_same, ecz]; exact (wr_y (fn := fn) (v := vv) ejr (by omega) eso (by omega) emz f_5 f_6 eji (by omega)).1), (by rw [ecz]; exact (wr_y (fn := fn) (v := vv) ejr (by omega) eso (by omega) emz f_5 f_6 eji (by omega)).2)⟩ dX8_write_89
      · have V : gW D T A s [(o, .inr (8, [.int (nI 0), .ref g1, .ref g2, .ref g3, .ref g4, .int (nI tp), .int w6, .int w7, .int w8, .int w9, .int w10, .int w11, .int w12, .int w13, .int w14, .ref g15, .int w16, .ref g17, .int w18, .int w19, .ref g20, .int w21, .ref g22, .ref g23, .ref g24, .int w25, .int w26, .int w27, .ref g28, .ref g29, .int w30, .ref g31, .ref g32, .ref g33])), (g31, .inl (T 0, 4, .inl fq)), (g32, .inl (T 0, 4, .inl fm)), (g33, .inl (T 1, 160, .inr (.inl fn)))] H locs := V _ [] rfl rfl rfl (by decide +kernel) rfl
        show W p l e _ s m args below meth c H locs _ _ _ (F0 m 50 ls [.int (nI 0)])
        refine lv_if_ne (tgt := 57) hx hb dX8_write_50 (by decide) (fun c => absurd (show (nI 0) = 0 by decide +kernel) c) (fun _ => ?_)
        refine lv_ldc2 (v := (-7)) hx hb hown (hts _ w_1383) dX8_write_53 ?_
        exact g_lret (Qr := (q_m_write_f T o row i vv w0 g1 g2 g3 g4 tp w6 w7 w8 w9 w10 w11 w12 w13 w14 g15 w16 g17 w18 w19 g20 w21 g22 g23 g24 w25 w26 w27 g28 g29 w30 g31 g32 g33 fq fm fn)) hC V ⟨(Nat.le_of_ble_eq_true rfl), (Nat.le_of_ble_eq_true rfl)⟩ ⟨(-7), fn, rfl, rfl, (wr_7 (fn := fn) (v := vv) ejr (by omega) hq1 emz f_7).1, (wr_7 (fn := fn) (v := vv) ejr (by omega) hq1 emz f_7).2⟩ dX8_write_56
    · skip
      have hq0 := c_4
      refine lv_ldc2 (v := (-6)) hx hb hown (hts _ w_1382) dX8_write_31 ?_
      exact g_lret (Qr := (q_m_write_f T o row i vv w0 g1 g2 g3 g4 tp w6 w7 w8 w9 w10 w11 w12 w13 w14 g15 w16 g17 w18 w19 g20 w21 g22 g23 g24 w25 w26 w27 g28 g29 w30 g31 g32 g33 fq fm fn)) hC V ⟨(Nat.le_of_ble_eq_true rfl), (Nat.le_of_ble_eq_true rfl)⟩ ⟨(-6), fn, rfl, rfl, (wr_6 (fn := fn) (v := vv) ejr (by omega) hq0).1, (wr_6 (fn := fn) (v := vv) ejr (by omega) hq0).2⟩ dX8_write_34
  · have V : gW D T A s [(o, .inr (8, [.int (nI 0), .ref g1, .ref g2, .ref g3, .ref g4, .int (nI tp), .int w6, .int w7, .int w8, .int w9, .int w10, .int w11, .int w12, .int w13, .int w14, .ref g15, .int w16, .ref g17, .int w18, .int w19, .ref g20, .int w21, .ref g22, .ref g23, .ref g24, .int w25, .int w26, .int w27, .ref g28, .ref g29, .int w30, .ref g31, .ref g32, .ref g33])), (g31, .inl (T 0, 4, .inl fq)), (g32, .inl (T 0, 4, .inl fm)), (g33, .inl (T 1, 160, .inr (.inl fn)))] H locs := V _ [] rfl rfl rfl (by decide +kernel) rfl
    show W p l e _ s m args below meth c H locs _ _ _ (F0 m 14 ls [.int (nI 0)])
    have r0 : (row < 0 ∨ nI 4 ≤ row) := nv_r rfl (by decide) f_3
    refine lv_if_ne (tgt := 21) hx hb dX8_write_14 (by decide) (fun c => absurd (show (nI 0) = 0 by decide +kernel) c) (fun _ => ?_)
    refine lv_ldc2 (v := (-2)) hx hb hown (hts _ w_1381) dX8_write_17 ?_
    exact g_lret (Qr := (q_m_write_f T o row i vv w0 g1 g2 g3 g4 tp w6 w7 w8 w9 w10 w11 w12 w13 w14 g15 w16 g17 w18 w19 g20 w21 g22 g23 g24 w25 w26 w27 g28 g29 w30 g31 g32 g33 fq fm fn)) hC V ⟨(Nat.le_of_ble_eq_true rfl), (Nat.le_of_ble_eq_true rfl)⟩ ⟨(-2), fn, rfl, rfl, (wr_2 (fn := fn) (v := vv) r0).1, (wr_2 (fn := fn) (v := vv) r0).2⟩ dX8_write_20

def q_x_copy_f (T : Nat → ClassId) (fq : Nat → Int32) (fm : Nat → Int32) (fn : Nat → Int64) (nf1 : Nat → Int32) (nf2 : Nat → Int32) (nf4 : Nat → Int32) (nf5 : Nat → Int32) (nf6 : Nat → Int32) (nf7 : Nat → Int32) (nf9 : Nat → Int32) (fa : Nat → Int32) (o : Nat) (row : Int32) (n0 : Nat) (s0 : Nat) (im : Nat) (iz : Nat) (rw : Nat) (t0 : Nat) (u0 : Nat) (h0 : Nat) (y0 : Nat) (sv : Value) (ra0 : Nat) (rb0 : Nat) (rc0 : Nat) (rd0 : Nat) (rah : Int32) (raz : Nat) (ra1 : Nat) (ras : Nat) (raf : Nat → Int64) (rbh : Int32) (rbz : Nat) (rb1 : Nat) (rbs : Nat) (rbf : Nat → Int64) (rch : Int32) (rcz : Nat) (rc1 : Nat) (rcs : Nat) (rcf : Nat → Int64) (rdh : Int32) (rdz : Nat) (rd1 : Nat) (rds : Nat) (rdf : Nat → Int64) (nn : Nat) (nm : Int32) (nl : Int32) (no : Int32) (nu : Int32) (n1 : Nat) (n2 : Nat) (n3 : Nat) (n4 : Nat) (n5 : Nat) (n6 : Nat) (n7 : Nat) (n8 : Nat) (n9 : Nat) (n10 : Nat) (nf3 : Nat → Int32) : Option Value → va_W → Prop := fun rr ww => (∃ (z : Int32) (raF : Nat → Int64) (rbF : Nat → Int64) (rcF : Nat → Int64) (rdF : Nat → Int64), rr = some (.int z) ∧ ww = [(o, .inr (7, [.ref n0, .ref s0, .ref im, .ref iz, .ref rw, .ref t0, .ref u0, .ref h0, .ref y0, sv])), (rw, .inl (T 5, 4, .inr (.inr (.inr (.inr (va_up (va_up (va_up (va_up (fun _ => none) 0 (some ra0)) 1 (some rb0)) 2 (some rc0)) 3 (some rd0))))))), (ra0, .inr (1, [.int rah, .int (nI raz), .ref ra1, .int (nI ras)])), (ra1, .inl (T 1, 40, .inr (.inl raF))), (rb0, .inr (1, [.int rbh, .int (nI rbz), .ref rb1, .int (nI rbs)])), (rb1, .inl (T 1, 40, .inr (.inl rbF))), (rc0, .inr (1, [.int rch, .int (nI rcz), .ref rc1, .int (nI rcs)])), (rc1, .inl (T 1, 40, .inr (.inl rcF))), (rd0, .inr (1, [.int rdh, .int (nI rdz), .ref rd1, .int (nI rds)])), (rd1, .inl (T 1, 40, .inr (.inl rdF))), (n0, .inr (5, [.int (nI nn), .int nm, .int nl, .int no, .int nu, .ref n1, .ref n2, .ref n3, .ref n4, .ref n5, .ref n6, .ref n7, .ref n8, .ref n9, .ref n10])), (n3, .inl (T 0, 10, .inl nf3))] ∧ z = cpA nn fq fm row ∧ RW 0 rah raz ras raF fq fm (cpN nn fa fn fq fm row) ∧ RW 1 rbh rbz rbs rbF fq fm (cpN nn fa fn fq fm row) ∧ RW 2 rch rcz rcs rcF fq fm (cpN nn fa fn fq fm row) ∧ RW 3 rdh rdz rds rdF fq fm (cpN nn fa fn fq fm row))
set_option maxHeartbeats 4000000 in
set_option maxRecDepth 100000 in
theorem x_copy_f (l : Launch) (D : va_G) (T : Nat → ClassId) (fq : Nat → Int32) (fm : Nat → Int32) (fn : Nat → Int64) (nf1 : Nat → Int32) (nf2 : Nat → Int32) (nf4 : Nat → Int32) (nf5 : Nat → Int32) (nf6 : Nat → Int32) (nf7 : Nat → Int32) (nf9 : Nat → Int32) (fa : Nat → Int32) (o : Nat) (row : Int32) (n0 : Nat) (s0 : Nat) (im : Nat) (iz : Nat) (rw : Nat) (t0 : Nat) (u0 : Nat) (h0 : Nat) (y0 : Nat) (sv : Value) (ra0 : Nat) (rb0 : Nat) (rc0 : Nat) (rd0 : Nat) (rah : Int32) (raz : Nat) (ra1 : Nat) (ras : Nat) (raf : Nat → Int64) (rbh : Int32) (rbz : Nat) (rb1 : Nat) (rbs : Nat) (rbf : Nat → Int64) (rch : Int32) (rcz : Nat) (rc1 : Nat) (rcs : Nat) (rcf : Nat → Int64) (rdh : Int32) (rdz : Nat) (rd1 : Nat) (rds : Nat) (rdf : Nat → Int64) (nn : Nat) (nm : Int32) (nl : Int32) (no : Int32) (nu : Int32) (n1 : Nat) (n2 : Nat) (n3 : Nat) (n4 : Nat) (n5 : Nat) (n6 : Nat) (n7 : Nat) (n8 : Nat) (n9 : Nat) (n10 : Nat) (nf3 : Nat → Int32) (h_zra : raz ≤ 40) (h_zrb : rbz ≤ 40) (h_zrc : rcz ≤ 40) (h_zrd : rdz ≤ 40) (h_sra : ras ≤ 3) (h_srb : rbs ≤ 3) (h_src : rcs ≤ 3) (h_srd : rds ≤ 3) (h_r0 : RW 0 rah raz ras raf fq fm fn) (h_r1 : RW 1 rbh rbz rbs rbf fq fm fn) (h_r2 : RW 2 rch rcz rcs rcf fq fm fn) (h_r3 : RW 3 rdh rdz rds rdf fq fm fn) (h_n : nn ≤ 10) (h_sr : SR nn nm nl no nf1 nf2 nf3 nf4 nf5 nf6 nf7 nf9 fa) : Ct l yX7_copy cX7_copy 4 (some .int) 2 0 0 D T [.ref o, .int row] [(o, .inr (7, [.ref n0, .ref s0, .ref im, .ref iz, .ref rw, .ref t0, .ref u0, .ref h0, .ref y0, sv])), (rw, .inl (T 5, 4, .inr (.inr (.inr (.inr (va_up (va_up (va_up (va_up (fun _ => none) 0 (some ra0)) 1 (some rb0)) 2 (some rc0)) 3 (some rd0))))))), (ra0, .inr (1, [.int rah, .int (nI raz), .ref ra1, .int (nI ras)])), (ra1, .inl (T 1, 40, .inr (.inl raf))), (rb0, .inr (1, [.int rbh, .int (nI rbz), .ref rb1, .int (nI rbs)])), (rb1, .inl (T 1, 40, .inr (.inl rbf))), (rc0, .inr (1, [.int rch, .int (nI rcz), .ref rc1, .int (nI rcs)])), (rc1, .inl (T 1, 40, .inr (.inl rcf))), (rd0, .inr (1, [.int rdh, .int (nI rdz), .ref rd1, .int (nI rds)])), (rd1, .inl (T 1, 40, .inr (.inl rdf))), (n0, .inr (5, [.int (nI nn), .int nm, .int nl, .int no, .int nu, .ref n1, .ref n2, .ref n3, .ref n4, .ref n5, .ref n6, .ref n7, .ref n8, .ref n9, .ref n10])), (n3, .inl (T 0, 10, .inl nf3))] (q_x_copy_f T fq fm fn nf1 nf2 nf4 nf5 nf6 nf7 nf9 fa o row n0 s0 im iz rw t0 u0 h0 y0 sv ra0 rb0 rc0 rd0 rah raz ra1 ras raf rbh rbz rb1 rbs rbf rch rcz rc1 rcs rcf rdh rdz rd1 rds rdf nn nm nl no nu n1 n2 n3 n4 n5 n6 n7 n8 n9 n10 nf3) := by
  refine Ct.of (cc := cX7_copy) (maxL := 4) (ret := (some .int)) (by decide) (Nat.le_of_ble_eq_true rfl) ?_
  intro p e s m args below meth c A ls hC hnm V hl
  obtain ⟨hx, hb, hr, hml, hown, hts, hlocks⟩ := id hC
  generalize hH : s.heap = H at V ⊢
  clear hH
  have hl : lv_has ls 4 [(0, .ref o), (1, .int row)] := hl
  generalize hlo : ([] : List Loc) = locs at V ⊢
  clear hlo
  refine lv_aload_n hx hb dX7_copy_0 rfl (lv_at hl 0 rfl) ?_
  refine lv_iload_n hx hb dX7_copy_1 rfl (lv_at hl 1 rfl) ?_
  refine g_callVU (nA := 1) hC V hl.1 (x_refusedRow l D T o row n0 s0 im iz rw t0 u0 h0 y0 sv ra0 rb0 rc0 rd0 rah raz ra1 ras raf rbh rbz rb1 rbs rbf rch rcz rc1 rcs rcf rdh rdz rd1 rds rdf) w_524 w_526 w_s11 w_2 w_527 (by decide +kernel) rfl ⟨(Nat.le_of_ble_eq_true rfl), (Nat.le_of_ble_eq_true rfl)⟩ 0 (ci := 7) rfl rfl [0, 1, 2, 3, 4, 5, 6, 7, 8, 9] rfl rfl (Nat.le_of_ble_eq_true rfl) dX7_copy_2 ⟨(Nat.le_of_ble_eq_true rfl), (Nat.le_of_ble_eq_true rfl)⟩ rfl (fun r w1 H locs hQ V => ?_)
  rcases hQ with ⟨rfl, rfl, f_1, f_2, f_3, f_4, f_5, f_6⟩ | ⟨z_7, rfl, rfl, f_8, f_9⟩
  · have V : gW D T A s [(o, .inr (7, [.ref n0, .ref s0, .ref im, .ref iz, .ref rw, .ref t0, .ref u0, .ref h0, .ref y0, sv])), (rw, .inl (T 5, 4, .inr (.inr (.inr (.inr (va_up (va_up (va_up (va_up (fun _ => none) 0 (some ra0)) 1 (some rb0)) 2 (some rc0)) 3 (some rd0))))))), (ra0, .inr (1, [.int rah, .int (nI raz), .ref ra1, .int (nI ras)])), (ra1, .inl (T 1, 40, .inr (.inl raf))), (rb0, .inr (1, [.int rbh, .int (nI rbz), .ref rb1, .int (nI rbs)])), (rb1, .inl (T 1, 40, .inr (.inl rbf))), (rc0, .inr (1, [.int rch, .int (nI rcz), .ref rc1, .int (nI rcs)])), (rc1, .inl (T 1, 40, .inr (.inl rcf))), (rd0, .inr (1, [.int rdh, .int (nI rdz), .ref rd1, .int (nI rds)])), (rd1, .inl (T 1, 40, .inr (.inl rdf))), (n0, .inr (5, [.int (nI nn), .int nm, .int nl, .int no, .int nu, .ref n1, .ref n2, .ref n3, .ref n4, .ref n5, .ref n6, .ref n7, .ref n8, .ref n9, .ref n10])), (n3, .inl (T 0, 10, .inl nf3))] H locs := V _ [0, 0, 0, 0, 0, 0, 0, 0, 0, 0] rfl rfl rfl (by decide +kernel) rfl
    show W p l e _ s m args below meth c H locs _ _ _ (F0 m 5 ls [.int (nI 0)])
    obtain ⟨j_10, hj_10, ej_10⟩ := g_idx (n := 4) (by decide) f_1 f_2
    rw [ej_10] at hl
    have hj_10 : j_10 = 0 ∨ j_10 = 1 ∨ j_10 = 2 ∨ j_10 = 3 := by omega
    rcases hj_10 with rfl | rfl | rfl | rfl
    · have hRk := RW_y h_r0 (f_3 ej_10)
      refine lv_istore_n (lv' := [(2, .int (nI 0)), (0, .ref o), (1, .int (nI 0))]) hx hb dX7_copy_5 rfl hl (by decide) rfl (fun ls hl => ?_)
      refine lv_iload_n hx hb dX7_copy_6 rfl (lv_at hl 0 rfl) ?_
      refine lv_if_eq (tgt := 12) hx hb dX7_copy_7 (by decide) (fun _ => ?_) (fun c => absurd (show (nI 0) = 0 by decide +kernel) c)
      refine lv_aload_n hx hb dX7_copy_12 rfl (lv_at hl 1 rfl) ?_
      refine g_get hC V (ci := 7) uwX7 0 rfl rfl 4 (by decide) w_253 rfl rfl dX7_copy_13 ?_
      refine lv_iload_n hx hb dX7_copy_16 rfl (lv_at hl 2 rfl) ?_
      refine g_aald hC V 1 5 rfl rfl (vp_in_nI (by decide) (by decide)) (v := .ref ra0) (by rw [nI_clamp (by decide)]; rfl) dX7_copy_17 ?_
      refine g_get hC V (ci := 1) uwX1 2 rfl rfl 1 (by decide) w_232 rfl rfl dX7_copy_18 ?_
      refine lv_aload_n hx hb dX7_copy_21 rfl (lv_at hl 1 rfl) ?_
      refine g_get hC V (ci := 7) uwX7 0 rfl rfl 0 (by decide) w_249 rfl rfl dX7_copy_22 ?_
      refine g_get hC V (ci := 5) uwX5 10 rfl rfl 0 (by decide) w_38 rfl rfl dX7_copy_25 ?_
      refine lv_icmp_ge (tgt := 34) hx hb dX7_copy_28 (by decide) (fun c_11 => ?_) (fun c_11 => ?_)
      · skip
        have c_11 := b_le (by omega) (by omega) c_11
        refine lv_iconst (v := (nI 0)) hx hb dX7_copy_34 (by decide +kernel) ?_
        refine lv_istore_n (lv' := [(3, .int (nI 0)), (2, .int (nI 0)), (0, .ref o), (1, .int (nI 0))]) hx hb dX7_copy_35 rfl hl (by decide) rfl (fun ls hl => ?_)
        have L_12 : ∀ (fu : Nat) (k36 : Nat) (raG : Nat → Int64), k36 ≤ nn → (∀ i, i < k36 → raG i = cutv ras (fa (24 + i)).toInt64) → (∀ i, k36 ≤ i → raG i = raf i) → nn - k36 < fu → ∀ (H : Heap) (locs : List Loc) (ls : Array Slot), gW D T A s [(o, .inr (7, [.ref n0, .ref s0, .ref im, .ref iz, .ref rw, .ref t0, .ref u0, .ref h0, .ref y0, sv])), (rw, .inl (T 5, 4, .inr (.inr (.inr (.inr (va_up (va_up (va_up (va_up (fun _ => none) 0 (some ra0)) 1 (some rb0)) 2 (some rc0)) 3 (some rd0))))))), (ra0, .inr (1, [.int rah, .int (nI raz), .ref ra1, .int (nI ras)])), (ra1, .inl (T 1, 40, .inr (.inl raG))), (rb0, .inr (1, [.int rbh, .int (nI rbz), .ref rb1, .int (nI rbs)])), (rb1, .inl (T 1, 40, .inr (.inl rbf))), (rc0, .inr (1, [.int rch, .int (nI rcz), .ref rc1, .int (nI rcs)])), (rc1, .inl (T 1, 40, .inr (.inl rcf))), (rd0, .inr (1, [.int rdh, .int (nI rdz), .ref rd1, .int (nI rds)])), (rd1, .inl (T 1, 40, .inr (.inl rdf))), (n0, .inr (5, [.int (nI nn), .int nm, .int nl, .int no, .int nu, .ref n1, .ref n2, .ref n3, .ref n4, .ref n5, .ref n6, .ref n7, .ref n8, .ref n9, .ref n10])), (n3, .inl (T 0, 10, .inl nf3))] H locs → lv_has ls 4 [(3, .int (nI k36)), (2, .int (nI 0)), (0, .ref o), (1, .int (nI 0))] → W p l e (rmD 2 0 0) s m args below meth c H locs 0 0 (MQ below (gQ D A (q_x_copy_f T fq fm fn nf1 nf2 nf4 nf5 nf6 nf7 nf9 fa o row n0 s0 im iz rw t0 u0 h0 y0 sv ra0 rb0 rc0 rd0 rah raz ra1 ras raf rbh rbz rb1 rbs rbf rch rcz rc1 rcs rcf rdh rdz rd1 rds rdf nn nm nl no nu n1 n2 n3 n4 n5 n6 n7 n8 n9 n10 nf3)) args s 0 0 A) (F0 m 36 ls []) := by
          intro fu_36
          induction fu_36 with
          | zero => intro k36 raG hk36 hg1 hg2 hmu; exact absurd hmu (Nat.not_lt_zero _)
          | succ fu_36 ih_36 =>
            intro k36 raG hk36 hg1 hg2 hmu_36 H locs ls V hl
            refine lv_iload_n hx hb dX7_copy_36 rfl (lv_at hl 0 rfl) ?_
            refine lv_aload_n hx hb dX7_copy_37 rfl (lv_at hl 2 rfl) ?_
            refine g_get hC V (ci := 7) uwX7 0 rfl rfl 0 (by decide) w_249 rfl rfl dX7_copy_38 ?_
            refine g_get hC V (ci := 5) uwX5 10 rfl rfl 0 (by decide) w_38 rfl rfl dX7_copy_41 ?_
            refine lv_icmp_ge (tgt := 73) hx hb dX7_copy_44 (by decide) (fun c_13 => ?_) (fun c_13 => ?_)
            · skip
              have c_13 := b_le (by omega) (by omega) c_13
              refine lv_aload_n hx hb dX7_copy_73 rfl (lv_at hl 2 rfl) ?_
              refine g_get hC V (ci := 7) uwX7 0 rfl rfl 0 (by decide) w_249 rfl rfl dX7_copy_74 ?_
              refine g_get hC V (ci := 5) uwX5 10 rfl rfl 0 (by decide) w_38 rfl rfl dX7_copy_77 ?_
              exact g_iret (Qr := (q_x_copy_f T fq fm fn nf1 nf2 nf4 nf5 nf6 nf7 nf9 fa o row n0 s0 im iz rw t0 u0 h0 y0 sv ra0 rb0 rc0 rd0 rah raz ra1 ras raf rbh rbz rb1 rbs rbf rch rcz rc1 rcs rcf rdh rdz rd1 rds rdf nn nm nl no nu n1 n2 n3 n4 n5 n6 n7 n8 n9 n10 nf3)) hC V ⟨(Nat.le_of_ble_eq_true rfl), (Nat.le_of_ble_eq_true rfl)⟩ ⟨(nI nn), raG, rbf, rcf, rdf, rfl, rfl, (by unfold cpA; rw [if_pos (rr_s ej_10 (by decide) hRk.1 (by omega)), ej_10, nI_clamp (by decide), hRk.2.1, if_neg (fun q => by have := b_lt (by omega) (by omega) q; omega)]), (RC_s (rr_s ej_10 (by decide) hRk.1 (by omega)) ej_10 (by decide) hRk.1 (by omega) hRk.2.1 (by omega) h_n (by omega) h_r0 (fun i hi => hg1 i (by omega)) (fun i hi => hg2 i (by omega))), (RC_o (rr_s ej_10 (by decide) hRk.1 (by omega)) ej_10 (by decide) hRk.1 (by omega) hRk.2.1 (by omega) h_n (by omega) (by decide) (by omega) h_r1), (RC_o (rr_s ej_10 (by decide) hRk.1 (by omega)) ej_10 (by decide) hRk.1 (by omega) hRk.2.1 (by omega) h_n (by omega) (by decide) (by omega) h_r2), (RC_o (rr_s ej_10 (by decide) hRk.1 (by omega)) ej_10 (by decide) hRk.1 (by omega) hRk.2.1 (by omega) h_n (by omega) (by decide) (by omega) h_r3)⟩ dX7_copy_80
            · skip
              have c_13 := b_nle (by omega) (by omega) c_13
              refine lv_aload_n hx hb dX7_copy_47 rfl (lv_at hl 2 rfl) ?_
              refine g_get hC V (ci := 7) uwX7 0 rfl rfl 4 (by decide) w_253 rfl rfl dX7_copy_48 ?_
              refine lv_iload_n hx hb dX7_copy_51 rfl (lv_at hl 3 rfl) ?_
              refine g_aald hC V 1 5 rfl rfl (vp_in_nI (by decide) (by decide)) (v := .ref ra0) (by rw [nI_clamp (by decide)]; rfl) dX7_copy_52 ?_
              refine lv_iload_n hx hb dX7_copy_53 rfl (lv_at hl 0 rfl) ?_
              refine lv_aload_n hx hb dX7_copy_54 rfl (lv_at hl 2 rfl) ?_
              refine g_get hC V (ci := 7) uwX7 0 rfl rfl 0 (by decide) w_249 rfl rfl dX7_copy_55 ?_
              refine g_get hC V (ci := 5) uwX5 10 rfl rfl 7 (by decide) w_65 rfl rfl dX7_copy_58 ?_
              refine lv_iload_n hx hb dX7_copy_61 rfl (lv_at hl 0 rfl) ?_
              refine g_iald hC V 11 rfl (vp_in_nI (by omega) (by omega)) (v := (nf3 k36)) (congrArg _ (nI_clamp (by omega))) dX7_copy_62 ?_
              refine lv_i2l (v := (nf3 k36).toInt64) hx hb dX7_copy_63 rfl ?_
              refine g_callVU (nA := 2) hC V hl.1 (r_put l D T ra0 k36 ((nf3 k36).toInt64) rah raz ra1 ras raG (by first | assumption | omega) (by first | assumption | omega)) w_871 w_872 w_873 w_8 w_874 (by decide +kernel) rfl ⟨(Nat.le_of_ble_eq_true rfl), (Nat.le_of_ble_eq_true rfl)⟩ 2 (ci := 1) rfl rfl [2, 3] rfl rfl (Nat.le_of_ble_eq_true rfl) dX7_copy_64 ⟨(Nat.le_of_ble_eq_true rfl), (Nat.le_of_ble_eq_true rfl)⟩ rfl (fun r w1 H locs hQ V => ?_)
              obtain ⟨rfl, rfl⟩ := hQ
              have V : gW D T A s [(o, .inr (7, [.ref n0, .ref s0, .ref im, .ref iz, .ref rw, .ref t0, .ref u0, .ref h0, .ref y0, sv])), (rw, .inl (T 5, 4, .inr (.inr (.inr (.inr (va_up (va_up (va_up (va_up (fun _ => none) 0 (some ra0)) 1 (some rb0)) 2 (some rc0)) 3 (some rd0))))))), (ra0, .inr (1, [.int rah, .int (nI raz), .ref ra1, .int (nI ras)])), (ra1, .inl (T 1, 40, .inr (.inl (vp_updL raG k36 (cutv ras ((nf3 k36).toInt64)))))), (rb0, .inr (1, [.int rbh, .int (nI rbz), .ref rb1, .int (nI rbs)])), (rb1, .inl (T 1, 40, .inr (.inl rbf))), (rc0, .inr (1, [.int rch, .int (nI rcz), .ref rc1, .int (nI rcs)])), (rc1, .inl (T 1, 40, .inr (.inl rcf))), (rd0, .inr (1, [.int rdh, .int (nI rdz), .ref rd1, .int (nI rds)])), (rd1, .inl (T 1, 40, .inr (.inl rdf))), (n0, .inr (5, [.int (nI nn), .int nm, .int nl, .int no, .int nu, .ref n1, .ref n2, .ref n3, .ref n4, .ref n5, .ref n6, .ref n7, .ref n8, .ref n9, .ref n10])), (n3, .inl (T 0, 10, .inl nf3))] H locs := V _ [2, 0] rfl rfl rfl (by decide +kernel) rfl
              show W p l e _ s m args below meth c H locs _ _ _ (F0 m 67 ls [])
              refine lv_iinc (v := (nI (k36 + 1))) (lv' := [(3, .int (nI (k36 + 1))), (2, .int (nI 0)), (0, .ref o), (1, .int (nI 0))]) hx hb dX7_copy_67 hl (k := 0) rfl (nI_1 _) (by decide) rfl (fun ls hl => ?_)
              refine lv_goto (tgt := 36) hx hb dX7_copy_70 (by decide) ?_
              exact ih_36 (k36 + 1) (vp_updL raG k36 (cutv ras ((nf3 k36).toInt64))) (by omega) (upL_one (p := fun i y => y = cutv ras (fa (24 + i)).toInt64) hg1 (by rw [(h_sr.2.2.2.2 k36 (by omega)).2.2.1])) (fun i hi => (upL_other (by omega)).trans (hg2 i (by omega))) (by omega) _ _ _ V (lv_sub hl [0, 1, 2, 3] rfl)
        exact L_12 _ 0 raf (by omega) (fun i h => absurd h (Nat.not_lt_zero _)) (fun _ _ => rfl) (Nat.lt_succ_self _) _ _ _ V (lv_sub hl [0, 1, 2, 3] rfl)
      · skip
        have c_11 := b_nle (by omega) (by omega) c_11
        refine lv_bipush (v := (-7)) hx hb dX7_copy_31 (by decide +kernel) ?_
        exact g_iret (Qr := (q_x_copy_f T fq fm fn nf1 nf2 nf4 nf5 nf6 nf7 nf9 fa o row n0 s0 im iz rw t0 u0 h0 y0 sv ra0 rb0 rc0 rd0 rah raz ra1 ras raf rbh rbz rb1 rbs rbf rch rcz rc1 rcs rcf rdh rdz rd1 rds rdf nn nm nl no nu n1 n2 n3 n4 n5 n6 n7 n8 n9 n10 nf3)) hC V ⟨(Nat.le_of_ble_eq_true rfl), (Nat.le_of_ble_eq_true rfl)⟩ ⟨(-7), raf, rbf, rcf, rdf, rfl, rfl, (cp_7 (f := fa) (fn := fn) (rr_s ej_10 (by decide) hRk.1 (by omega)) ej_10 (by decide) hRk.2.1 (by omega) (by omega) (by omega)).1, (by rw [← (cp_7 (f := fa) (fn := fn) (rr_s ej_10 (by decide) hRk.1 (by omega)) ej_10 (by decide) hRk.2.1 (by omega) (by omega) (by omega)).2]; exact h_r0), (by rw [← (cp_7 (f := fa) (fn := fn) (rr_s ej_10 (by decide) hRk.1 (by omega)) ej_10 (by decide) hRk.2.1 (by omega) (by omega) (by omega)).2]; exact h_r1), (by rw [← (cp_7 (f := fa) (fn := fn) (rr_s ej_10 (by decide) hRk.1 (by omega)) ej_10 (by decide) hRk.2.1 (by omega) (by omega) (by omega)).2]; exact h_r2), (by rw [← (cp_7 (f := fa) (fn := fn) (rr_s ej_10 (by decide) hRk.1 (by omega)) ej_10 (by decide) hRk.2.1 (by omega) (by omega) (by omega)).2]; exact h_r3)⟩ dX7_copy_33
    · have hRk := RW_y h_r1 (f_4 ej_10)
      refine lv_istore_n (lv' := [(2, .int (nI 0)), (0, .ref o), (1, .int (nI 1))]) hx hb dX7_copy_5 rfl hl (by decide) rfl (fun ls hl => ?_)
      refine lv_iload_n hx hb dX7_copy_6 rfl (lv_at hl 0 rfl) ?_
      refine lv_if_eq (tgt := 12) hx hb dX7_copy_7 (by decide) (fun _ => ?_) (fun c => absurd (show (nI 0) = 0 by decide +kernel) c)
      refine lv_aload_n hx hb dX7_copy_12 rfl (lv_at hl 1 rfl) ?_
      refine g_get hC V (ci := 7) uwX7 0 rfl rfl 4 (by decide) w_253 rfl rfl dX7_copy_13 ?_
      refine lv_iload_n hx hb dX7_copy_16 rfl (lv_at hl 2 rfl) ?_
      refine g_aald hC V 1 5 rfl rfl (vp_in_nI (by decide) (by decide)) (v := .ref rb0) (by rw [nI_clamp (by decide)]; rfl) dX7_copy_17 ?_
      refine g_get hC V (ci := 1) uwX1 4 rfl rfl 1 (by decide) w_232 rfl rfl dX7_copy_18 ?_
      refine lv_aload_n hx hb dX7_copy_21 rfl (lv_at hl 1 rfl) ?_
      refine g_get hC V (ci := 7) uwX7 0 rfl rfl 0 (by decide) w_249 rfl rfl dX7_copy_22 ?_
      refine g_get hC V (ci := 5) uwX5 10 rfl rfl 0 (by decide) w_38 rfl rfl dX7_copy_25 ?_
      refine lv_icmp_ge (tgt := 34) hx hb dX7_copy_28 (by decide) (fun c_14 => ?_) (fun c_14 => ?_)
      · skip
        have c_14 := b_le (by omega) (by omega) c_14
        refine lv_iconst (v := (nI 0)) hx hb dX7_copy_34 (by decide +kernel) ?_
        refine lv_istore_n (lv' := [(3, .int (nI 0)), (2, .int (nI 0)), (0, .ref o), (1, .int (nI 1))]) hx hb dX7_copy_35 rfl hl (by decide) rfl (fun ls hl => ?_)
        have L_15 : ∀ (fu : Nat) (k36 : Nat) (rbG : Nat → Int64), k36 ≤ nn → (∀ i, i < k36 → rbG i = cutv rbs (fa (24 + i)).toInt64) → (∀ i, k36 ≤ i → rbG i = rbf i) → nn - k36 < fu → ∀ (H : Heap) (locs : List Loc) (ls : Array Slot), gW D T A s [(o, .inr (7, [.ref n0, .ref s0, .ref im, .ref iz, .ref rw, .ref t0, .ref u0, .ref h0, .ref y0, sv])), (rw, .inl (T 5, 4, .inr (.inr (.inr (.inr (va_up (va_up (va_up (va_up (fun _ => none) 0 (some ra0)) 1 (some rb0)) 2 (some rc0)) 3 (some rd0))))))), (ra0, .inr (1, [.int rah, .int (nI raz), .ref ra1, .int (nI ras)])), (ra1, .inl (T 1, 40, .inr (.inl raf))), (rb0, .inr (1, [.int rbh, .int (nI rbz), .ref rb1, .int (nI rbs)])), (rb1, .inl (T 1, 40, .inr (.inl rbG))), (rc0, .inr (1, [.int rch, .int (nI rcz), .ref rc1, .int (nI rcs)])), (rc1, .inl (T 1, 40, .inr (.inl rcf))), (rd0, .inr (1, [.int rdh, .int (nI rdz), .ref rd1, .int (nI rds)])), (rd1, .inl (T 1, 40, .inr (.inl rdf))), (n0, .inr (5, [.int (nI nn), .int nm, .int nl, .int no, .int nu, .ref n1, .ref n2, .ref n3, .ref n4, .ref n5, .ref n6, .ref n7, .ref n8, .ref n9, .ref n10])), (n3, .inl (T 0, 10, .inl nf3))] H locs → lv_has ls 4 [(3, .int (nI k36)), (2, .int (nI 0)), (0, .ref o), (1, .int (nI 1))] → W p l e (rmD 2 0 0) s m args below meth c H locs 0 0 (MQ below (gQ D A (q_x_copy_f T fq fm fn nf1 nf2 nf4 nf5 nf6 nf7 nf9 fa o row n0 s0 im iz rw t0 u0 h0 y0 sv ra0 rb0 rc0 rd0 rah raz ra1 ras raf rbh rbz rb1 rbs rbf rch rcz rc1 rcs rcf rdh rdz rd1 rds rdf nn nm nl no nu n1 n2 n3 n4 n5 n6 n7 n8 n9 n10 nf3)) args s 0 0 A) (F0 m 36 ls []) := by
          intro fu_36
          induction fu_36 with
          | zero => intro k36 rbG hk36 hg1 hg2 hmu; exact absurd hmu (Nat.not_lt_zero _)
          | succ fu_36 ih_36 =>
            intro k36 rbG hk36 hg1 hg2 hmu_36 H locs ls V hl
            refine lv_iload_n hx hb dX7_copy_36 rfl (lv_at hl 0 rfl) ?_
            refine lv_aload_n hx hb dX7_copy_37 rfl (lv_at hl 2 rfl) ?_
            refine g_get hC V (ci := 7) uwX7 0 rfl rfl 0 (by decide) w_249 rfl rfl dX7_copy_38 ?_
            refine g_get hC V (ci := 5) uwX5 10 rfl rfl 0 (by decide) w_38 rfl rfl dX7_copy_41 ?_
            refine lv_icmp_ge (tgt := 73) hx hb dX7_copy_44 (by decide) (fun c_16 => ?_) (fun c_16 => ?_)
            · skip
              have c_16 := b_le (by omega) (by omega) c_16
              refine lv_aload_n hx hb dX7_copy_73 rfl (lv_at hl 2 rfl) ?_
              refine g_get hC V (ci := 7) uwX7 0 rfl rfl 0 (by decide) w_249 rfl rfl dX7_copy_74 ?_
              refine g_get hC V (ci := 5) uwX5 10 rfl rfl 0 (by decide) w_38 rfl rfl dX7_copy_77 ?_
              exact g_iret (Qr := (q_x_copy_f T fq fm fn nf1 nf2 nf4 nf5 nf6 nf7 nf9 fa o row n0 s0 im iz rw t0 u0 h0 y0 sv ra0 rb0 rc0 rd0 rah raz ra1 ras raf rbh rbz rb1 rbs rbf rch rcz rc1 rcs rcf rdh rdz rd1 rds rdf nn nm nl no nu n1 n2 n3 n4 n5 n6 n7 n8 n9 n10 nf3)) hC V ⟨(Nat.le_of_ble_eq_true rfl), (Nat.le_of_ble_eq_true rfl)⟩ ⟨(nI nn), raf, rbG, rcf, rdf, rfl, rfl, (by unfold cpA; rw [if_pos (rr_s ej_10 (by decide) hRk.1 (by omega)), ej_10, nI_clamp (by decide), hRk.2.1, if_neg (fun q => by have := b_lt (by omega) (by omega) q; omega)]), (RC_o (rr_s ej_10 (by decide) hRk.1 (by omega)) ej_10 (by decide) hRk.1 (by omega) hRk.2.1 (by omega) h_n (by omega) (by decide) (by omega) h_r0), (RC_s (rr_s ej_10 (by decide) hRk.1 (by omega)) ej_10 (by decide) hRk.1 (by omega) hRk.2.1 (by omega) h_n (by omega) h_r1 (fun i hi => hg1 i (by omega)) (fun i hi => hg2 i (by omega))), (RC_o (rr_s ej_10 (by decide) hRk.1 (by omega)) ej_10 (by decide) hRk.1 (by omega) hRk.2.1 (by omega) h_n (by omega) (by decide) (by omega) h_r2), (RC_o (rr_s ej_10 (by decide) hRk.1 (by omega)) ej_10 (by decide) hRk.1 (by omega) hRk.2.1 (by omega) h_n (by omega) (by decide) (by omega) h_r3)⟩ dX7_copy_80
            · skip
              have c_16 := b_nle (by omega) (by omega) c_16
              refine lv_aload_n hx hb dX7_copy_47 rfl (lv_at hl 2 rfl) ?_
              refine g_get hC V (ci := 7) uwX7 0 rfl rfl 4 (by decide) w_253 rfl rfl dX7_copy_48 ?_
              refine lv_iload_n hx hb dX7_copy_51 rfl (lv_at hl 3 rfl) ?_
              refine g_aald hC V 1 5 rfl rfl (vp_in_nI (by decide) (by decide)) (v := .ref rb0) (by rw [nI_clamp (by decide)]; rfl) dX7_copy_52 ?_
              refine lv_iload_n hx hb dX7_copy_53 rfl (lv_at hl 0 rfl) ?_
              refine lv_aload_n hx hb dX7_copy_54 rfl (lv_at hl 2 rfl) ?_
              refine g_get hC V (ci := 7) uwX7 0 rfl rfl 0 (by decide) w_249 rfl rfl dX7_copy_55 ?_
              refine g_get hC V (ci := 5) uwX5 10 rfl rfl 7 (by decide) w_65 rfl rfl dX7_copy_58 ?_
              refine lv_iload_n hx hb dX7_copy_61 rfl (lv_at hl 0 rfl) ?_
              refine g_iald hC V 11 rfl (vp_in_nI (by omega) (by omega)) (v := (nf3 k36)) (congrArg _ (nI_clamp (by omega))) dX7_copy_62 ?_
              refine lv_i2l (v := (nf3 k36).toInt64) hx hb dX7_copy_63 rfl ?_
              refine g_callVU (nA := 2) hC V hl.1 (r_put l D T rb0 k36 ((nf3 k36).toInt64) rbh rbz rb1 rbs rbG (by first | assumption | omega) (by first | assumption | omega)) w_871 w_872 w_873 w_8 w_874 (by decide +kernel) rfl ⟨(Nat.le_of_ble_eq_true rfl), (Nat.le_of_ble_eq_true rfl)⟩ 4 (ci := 1) rfl rfl [4, 5] rfl rfl (Nat.le_of_ble_eq_true rfl) dX7_copy_64 ⟨(Nat.le_of_ble_eq_true rfl), (Nat.le_of_ble_eq_true rfl)⟩ rfl (fun r w1 H locs hQ V => ?_)
              obtain ⟨rfl, rfl⟩ := hQ
              have V : gW D T A s [(o, .inr (7, [.ref n0, .ref s0, .ref im, .ref iz, .ref rw, .ref t0, .ref u0, .ref h0, .ref y0, sv])), (rw, .inl (T 5, 4, .inr (.inr (.inr (.inr (va_up (va_up (va_up (va_up (fun _ => none) 0 (some ra0)) 1 (some rb0)) 2 (some rc0)) 3 (some rd0))))))), (ra0, .inr (1, [.int rah, .int (nI raz), .ref ra1, .int (nI ras)])), (ra1, .inl (T 1, 40, .inr (.inl raf))), (rb0, .inr (1, [.int rbh, .int (nI rbz), .ref rb1, .int (nI rbs)])), (rb1, .inl (T 1, 40, .inr (.inl (vp_updL rbG k36 (cutv rbs ((nf3 k36).toInt64)))))), (rc0, .inr (1, [.int rch, .int (nI rcz), .ref rc1, .int (nI rcs)])), (rc1, .inl (T 1, 40, .inr (.inl rcf))), (rd0, .inr (1, [.int rdh, .int (nI rdz), .ref rd1, .int (nI rds)])), (rd1, .inl (T 1, 40, .inr (.inl rdf))), (n0, .inr (5, [.int (nI nn), .int nm, .int nl, .int no, .int nu, .ref n1, .ref n2, .ref n3, .ref n4, .ref n5, .ref n6, .ref n7, .ref n8, .ref n9, .ref n10])), (n3, .inl (T 0, 10, .inl nf3))] H locs := V _ [4, 0] rfl rfl rfl (by decide +kernel) rfl
              show W p l e _ s m args below meth c H locs _ _ _ (F0 m 67 ls [])
              refine lv_iinc (v := (nI (k36 + 1))) (lv' := [(3, .int (nI (k36 + 1))), (2, .int (nI 0)), (0, .ref o), (1, .int (nI 1))]) hx hb dX7_copy_67 hl (k := 0) rfl (nI_1 _) (by decide) rfl (fun ls hl => ?_)
              refine lv_goto (tgt := 36) hx hb dX7_copy_70 (by decide) ?_
              exact ih_36 (k36 + 1) (vp_updL rbG k36 (cutv rbs ((nf3 k36).toInt64))) (by omega) (upL_one (p := fun i y => y = cutv rbs (fa (24 + i)).toInt64) hg1 (by rw [(h_sr.2.2.2.2 k36 (by omega)).2.2.1])) (fun i hi => (upL_other (by omega)).trans (hg2 i (by omega))) (by omega) _ _ _ V (lv_sub hl [0, 1, 2, 3] rfl)
        exact L_15 _ 0 rbf (by omega) (fun i h => absurd h (Nat.not_lt_zero _)) (fun _ _ => rfl) (Nat.lt_succ_self _) _ _ _ V (lv_sub hl [0, 1, 2, 3] rfl)
      · skip
        have c_14 := b_nle (by omega) (by omega) c_14
        refine lv_bipush (v := (-7)) hx hb dX7_copy_31 (by decide +kernel) ?_
        exact g_iret (Qr := (q_x_copy_f T fq fm fn nf1 nf2 nf4 nf5 nf6 nf7 nf9 fa o row n0 s0 im iz rw t0 u0 h0 y0 sv ra0 rb0 rc0 rd0 rah raz ra1 ras raf rbh rbz rb1 rbs rbf rch rcz rc1 rcs rcf rdh rdz rd1 rds rdf nn nm nl no nu n1 n2 n3 n4 n5 n6 n7 n8 n9 n10 nf3)) hC V ⟨(Nat.le_of_ble_eq_true rfl), (Nat.le_of_ble_eq_true rfl)⟩ ⟨(-7), raf, rbf, rcf, rdf, rfl, rfl, (cp_7 (f := fa) (fn := fn) (rr_s ej_10 (by decide) hRk.1 (by omega)) ej_10 (by decide) hRk.2.1 (by omega) (by omega) (by omega)).1, (by rw [← (cp_7 (f := fa) (fn := fn) (rr_s ej_10 (by decide) hRk.1 (by omega)) ej_10 (by decide) hRk.2.1 (by omega) (by omega) (by omega)).2]; exact h_r0), (by rw [← (cp_7 (f := fa) (fn := fn) (rr_s ej_10 (by decide) hRk.1 (by omega)) ej_10 (by decide) hRk.2.1 (by omega) (by omega) (by omega)).2]; exact h_r1), (by rw [← (cp_7 (f := fa) (fn := fn) (rr_s ej_10 (by decide) hRk.1 (by omega)) ej_10 (by decide) hRk.2.1 (by omega) (by omega) (by omega)).2]; exact h_r2), (by rw [← (cp_7 (f := fa) (fn := fn) (rr_s ej_10 (by decide) hRk.1 (by omega)) ej_10 (by decide) hRk.2.1 (by omega) (by omega) (by omega)).2]; exact h_r3)⟩ dX7_copy_33
    · have hRk := RW_y h_r2 (f_5 ej_10)
      refine lv_istore_n (lv' := [(2, .int (nI 0)), (0, .ref o), (1, .int (nI 2))]) hx hb dX7_copy_5 rfl hl (by decide) rfl (fun ls hl => ?_)
      refine lv_iload_n hx hb dX7_copy_6 rfl (lv_at hl 0 rfl) ?_
      refine lv_if_eq (tgt := 12) hx hb dX7_copy_7 (by decide) (fun _ => ?_) (fun c => absurd (show (nI 0) = 0 by decide +kernel) c)
      refine lv_aload_n hx hb dX7_copy_12 rfl (lv_at hl 1 rfl) ?_
      refine g_get hC V (ci := 7) uwX7 0 rfl rfl 4 (by decide) w_253 rfl rfl dX7_copy_13 ?_
      refine lv_iload_n hx hb dX7_copy_16 rfl (lv_at hl 2 rfl) ?_
      refine g_aald hC V 1 5 rfl rfl (vp_in_nI (by decide) (by decide)) (v := .ref rc0) (by rw [nI_clamp (by decide)]; rfl) dX7_copy_17 ?_
      refine g_get hC V (ci := 1) uwX1 6 rfl rfl 1 (by decide) w_232 rfl rfl dX7_copy_18 ?_
      refine lv_aload_n hx hb dX7_copy_21 rfl (lv_at hl 1 rfl) ?_
      refine g_get hC V (ci := 7) uwX7 0 rfl rfl 0 (by decide) w_249 rfl rfl dX7_copy_22 ?_
      refine g_get hC V (ci := 5) uwX5 10 rfl rfl 0 (by decide) w_38 rfl rfl dX7_copy_25 ?_
      refine lv_icmp_ge (tgt := 34) hx hb dX7_copy_28 (by decide) (fun c_17 => ?_) (fun c_17 => ?_)
      · skip
        have c_17 := b_le (by omega) (by omega) c_17
        refine lv_iconst (v := (nI 0)) hx hb dX7_copy_34 (by decide +kernel) ?_
        refine lv_istore_n (lv' := [(3, .int (nI 0)), (2, .int (nI 0)), (0, .ref o), (1, .int (nI 2))]) hx hb dX7_copy_35 rfl hl (by decide) rfl (fun ls hl => ?_)
        have L_18 : ∀ (fu : Nat) (k36 : Nat) (rcG : Nat → Int64), k36 ≤ nn → (∀ i, i < k36 → rcG i = cutv rcs (fa (24 + i)).toInt64) → (∀ i, k36 ≤ i → rcG i = rcf i) → nn - k36 < fu → ∀ (H : Heap) (locs : List Loc) (ls : Array Slot), gW D T A s [(o, .inr (7, [.ref n0, .ref s0, .ref im, .ref iz, .ref rw, .ref t0, .ref u0, .ref h0, .ref y0, sv])), (rw, .inl (T 5, 4, .inr (.inr (.inr (.inr (va_up (va_up (va_up (va_up (fun _ => none) 0 (some ra0)) 1 (some rb0)) 2 (some rc0)) 3 (some rd0))))))), (ra0, .inr (1, [.int rah, .int (nI raz), .ref ra1, .int (nI ras)])), (ra1, .inl (T 1, 40, .inr (.inl raf))), (rb0, .inr (1, [.int rbh, .int (nI rbz), .ref rb1, .int (nI rbs)])), (rb1, .inl (T 1, 40, .inr (.inl rbf))), (rc0, .inr (1, [.int rch, .int (nI rcz), .ref rc1, .int (nI rcs)])), (rc1, .inl (T 1, 40, .inr (.inl rcG))), (rd0, .inr (1, [.int rdh, .int (nI rdz), .ref rd1, .int (nI rds)])), (rd1, .inl (T 1, 40, .inr (.inl rdf))), (n0, .inr (5, [.int (nI nn), .int nm, .int nl, .int no, .int nu, .ref n1, .ref n2, .ref n3, .ref n4, .ref n5, .ref n6, .ref n7, .ref n8, .ref n9, .ref n10])), (n3, .inl (T 0, 10, .inl nf3))] H locs → lv_has ls 4 [(3, .int (nI k36)), (2, .int (nI 0)), (0, .ref o), (1, .int (nI 2))] → W p l e (rmD 2 0 0) s m args below meth c H locs 0 0 (MQ below (gQ D A (q_x_copy_f T fq fm fn nf1 nf2 nf4 nf5 nf6 nf7 nf9 fa o row n0 s0 im iz rw t0 u0 h0 y0 sv ra0 rb0 rc0 rd0 rah raz ra1 ras raf rbh rbz rb1 rbs rbf rch rcz rc1 rcs rcf rdh rdz rd1 rds rdf nn nm nl no nu n1 n2 n3 n4 n5 n6 n7 n8 n9 n10 nf3)) args s 0 0 A) (F0 m 36 ls []) := by
          intro fu_36
          induction fu_36 with
          | zero => intro k36 rcG hk36 hg1 hg2 hmu; exact absurd hmu (Nat.not_lt_zero _)
          | succ fu_36 ih_36 =>
            intro k36 rcG hk36 hg1 hg2 hmu_36 H locs ls V hl
            refine lv_iload_n hx hb dX7_copy_36 rfl (lv_at hl 0 rfl) ?_
            refine lv_aload_n hx hb dX7_copy_37 rfl (lv_at hl 2 rfl) ?_
            refine g_get hC V (ci := 7) uwX7 0 rfl rfl 0 (by decide) w_249 rfl rfl dX7_copy_38 ?_
            refine g_get hC V (ci := 5) uwX5 10 rfl rfl 0 (by decide) w_38 rfl rfl dX7_copy_41 ?_
            refine lv_icmp_ge (tgt := 73) hx hb dX7_copy_44 (by decide) (fun c_19 => ?_) (fun c_19 => ?_)
            · skip
              have c_19 := b_le (by omega) (by omega) c_19
              refine lv_aload_n hx hb dX7_copy_73 rfl (lv_at hl 2 rfl) ?_
              refine g_get hC V (ci := 7) uwX7 0 rfl rfl 0 (by decide) w_249 rfl rfl dX7_copy_74 ?_
              refine g_get hC V (ci := 5) uwX5 10 rfl rfl 0 (by decide) w_38 rfl rfl dX7_copy_77 ?_
              exact g_iret (Qr := (q_x_copy_f T fq fm fn nf1 nf2 nf4 nf5 nf6 nf7 nf9 fa o row n0 s0 im iz rw t0 u0 h0 y0 sv ra0 rb0 rc0 rd0 rah raz ra1 ras raf rbh rbz rb1 rbs rbf rch rcz rc1 rcs rcf rdh rdz rd1 rds rdf nn nm nl no nu n1 n2 n3 n4 n5 n6 n7 n8 n9 n10 nf3)) hC V ⟨(Nat.le_of_ble_eq_true rfl), (Nat.le_of_ble_eq_true rfl)⟩ ⟨(nI nn), raf, rbf, rcG, rdf, rfl, rfl, (by unfold cpA; rw [if_pos (rr_s ej_10 (by decide) hRk.1 (by omega)), ej_10, nI_clamp (by decide), hRk.2.1, if_neg (fun q => by have := b_lt (by omega) (by omega) q; omega)]), (RC_o (rr_s ej_10 (by decide) hRk.1 (by omega)) ej_10 (by decide) hRk.1 (by omega) hRk.2.1 (by omega) h_n (by omega) (by decide) (by omega) h_r0), (RC_o (rr_s ej_10 (by decide) hRk.1 (by omega)) ej_10 (by decide) hRk.1 (by omega) hRk.2.1 (by omega) h_n (by omega) (by decide) (by omega) h_r1), (RC_s (rr_s ej_10 (by decide) hRk.1 (by omega)) ej_10 (by decide) hRk.1 (by omega) hRk.2.1 (by omega) h_n (by omega) h_r2 (fun i hi => hg1 i (by omega)) (fun i hi => hg2 i (by omega))), (RC_o (rr_s ej_10 (by decide) hRk.1 (by omega)) ej_10 (by decide) hRk.1 (by omega) hRk.2.1 (by omega) h_n (by omega) (by decide) (by omega) h_r3)⟩ dX7_copy_80
            · skip
              have c_19 := b_nle (by omega) (by omega) c_19
              refine lv_aload_n hx hb dX7_copy_47 rfl (lv_at hl 2 rfl) ?_
              refine g_get hC V (ci := 7) uwX7 0 rfl rfl 4 (by decide) w_253 rfl rfl dX7_copy_48 ?_
              refine lv_iload_n hx hb dX7_copy_51 rfl (lv_at hl 3 rfl) ?_
              refine g_aald hC V 1 5 rfl rfl (vp_in_nI (by decide) (by decide)) (v := .ref rc0) (by rw [nI_clamp (by decide)]; rfl) dX7_copy_52 ?_
              refine lv_iload_n hx hb dX7_copy_53 rfl (lv_at hl 0 rfl) ?_
              refine lv_aload_n hx hb dX7_copy_54 rfl (lv_at hl 2 rfl) ?_
              refine g_get hC V (ci := 7) uwX7 0 rfl rfl 0 (by decide) w_249 rfl rfl dX7_copy_55 ?_
              refine g_get hC V (ci := 5) uwX5 10 rfl rfl 7 (by decide) w_65 rfl rfl dX7_copy_58 ?_
              refine lv_iload_n hx hb dX7_copy_61 rfl (lv_at hl 0 rfl) ?_
              refine g_iald hC V 11 rfl (vp_in_nI (by omega) (by omega)) (v := (nf3 k36)) (congrArg _ (nI_clamp (by omega))) dX7_copy_62 ?_
              refine lv_i2l (v := (nf3 k36).toInt64) hx hb dX7_copy_63 rfl ?_
              refine g_callVU (nA := 2) hC V hl.1 (r_put l D T rc0 k36 ((nf3 k36).toInt64) rch rcz rc1 rcs rcG (by first | assumption | omega) (by first | assumption | omega)) w_871 w_872 w_873 w_8 w_874 (by decide +kernel) rfl ⟨(Nat.le_of_ble_eq_true rfl), (Nat.le_of_ble_eq_true rfl)⟩ 6 (ci := 1) rfl rfl [6, 7] rfl rfl (Nat.le_of_ble_eq_true rfl) dX7_copy_64 ⟨(Nat.le_of_ble_eq_true rfl), (Nat.le_of_ble_eq_true rfl)⟩ rfl (fun r w1 H locs hQ V => ?_)
              obtain ⟨rfl, rfl⟩ := hQ
              have V : gW D T A s [(o, .inr (7, [.ref n0, .ref s0, .ref im, .ref iz, .ref rw, .ref t0, .ref u0, .ref h0, .ref y0, sv])), (rw, .inl (T 5, 4, .inr (.inr (.inr (.inr (va_up (va_up (va_up (va_up (fun _ => none) 0 (some ra0)) 1 (some rb0)) 2 (some rc0)) 3 (some rd0))))))), (ra0, .inr (1, [.int rah, .int (nI raz), .ref ra1, .int (nI ras)])), (ra1, .inl (T 1, 40, .inr (.inl raf))), (rb0, .inr (1, [.int rbh, .int (nI rbz), .ref rb1, .int (nI rbs)])), (rb1, .inl (T 1, 40, .inr (.inl rbf))), (rc0, .inr (1, [.int rch, .int (nI rcz), .ref rc1, .int (nI rcs)])), (rc1, .inl (T 1, 40, .inr (.inl (vp_updL rcG k36 (cutv rcs ((nf3 k36).toInt64)))))), (rd0, .inr (1, [.int rdh, .int (nI rdz), .ref rd1, .int (nI rds)])), (rd1, .inl (T 1, 40, .inr (.inl rdf))), (n0, .inr (5, [.int (nI nn), .int nm, .int nl, .int no, .int nu, .ref n1, .ref n2, .ref n3, .ref n4, .ref n5, .ref n6, .ref n7, .ref n8, .ref n9, .ref n10])), (n3, .inl (T 0, 10, .inl nf3))] H locs := V _ [6, 0] rfl rfl rfl (by decide +kernel) rfl
              show W p l e _ s m args below meth c H locs _ _ _ (F0 m 67 ls [])
              refine lv_iinc (v := (nI (k36 + 1))) (lv' := [(3, .int (nI (k36 + 1))), (2, .int (nI 0)), (0, .ref o), (1, .int (nI 2))]) hx hb dX7_copy_67 hl (k := 0) rfl (nI_1 _) (by decide) rfl (fun ls hl => ?_)
              refine lv_goto (tgt := 36) hx hb dX7_copy_70 (by decide) ?_
              exact ih_36 (k36 + 1) (vp_updL rcG k36 (cutv rcs ((nf3 k36).toInt64))) (by omega) (upL_one (p := fun i y => y = cutv rcs (fa (24 + i)).toInt64) hg1 (by rw [(h_sr.2.2.2.2 k36 (by omega)).2.2.1])) (fun i hi => (upL_other (by omega)).trans (hg2 i (by omega))) (by omega) _ _ _ V (lv_sub hl [0, 1, 2, 3] rfl)
        exact L_18 _ 0 rcf (by omega) (fun i h => absurd h (Nat.not_lt_zero _)) (fun _ _ => rfl) (Nat.lt_succ_self _) _ _ _ V (lv_sub hl [0, 1, 2, 3] rfl)
      · skip
        have c_17 := b_nle (by omega) (by omega) c_17
        refine lv_bipush (v := (-7)) hx hb dX7_copy_31 (by decide +kernel) ?_
        exact g_iret (Qr := (q_x_copy_f T fq fm fn nf1 nf2 nf4 nf5 nf6 nf7 nf9 fa o row n0 s0 im iz rw t0 u0 h0 y0 sv ra0 rb0 rc0 rd0 rah raz ra1 ras raf rbh rbz rb1 rbs rbf rch rcz rc1 rcs rcf rdh rdz rd1 rds rdf nn nm nl no nu n1 n2 n3 n4 n5 n6 n7 n8 n9 n10 nf3)) hC V ⟨(Nat.le_of_ble_eq_true rfl), (Nat.le_of_ble_eq_true rfl)⟩ ⟨(-7), raf, rbf, rcf, rdf, rfl, rfl, (cp_7 (f := fa) (fn := fn) (rr_s ej_10 (by decide) hRk.1 (by omega)) ej_10 (by decide) hRk.2.1 (by omega) (by omega) (by omega)).1, (by rw [← (cp_7 (f := fa) (fn := fn) (rr_s ej_10 (by decide) hRk.1 (by omega)) ej_10 (by decide) hRk.2.1 (by omega) (by omega) (by omega)).2]; exact h_r0), (by rw [← (cp_7 (f := fa) (fn := fn) (rr_s ej_10 (by decide) hRk.1 (by omega)) ej_10 (by decide) hRk.2.1 (by omega) (by omega) (by omega)).2]; exact h_r1), (by rw [← (cp_7 (f := fa) (fn := fn) (rr_s ej_10 (by decide) hRk.1 (by omega)) ej_10 (by decide) hRk.2.1 (by omega) (by omega) (by omega)).2]; exact h_r2), (by rw [← (cp_7 (f := fa) (fn := fn) (rr_s ej_10 (by decide) hRk.1 (by omega)) ej_10 (by decide) hRk.2.1 (by omega) (by omega) (by omega)).2]; exact h_r3)⟩ dX7_copy_33
    · have hRk := RW_y h_r3 (f_6 ej_10)
      refine lv_istore_n (lv' := [(2, .int (nI 0)), (0, .ref o), (1, .int (nI 3))]) hx hb dX7_copy_5 rfl hl (by decide) rfl (fun ls hl => ?_)
      refine lv_iload_n hx hb dX7_copy_6 rfl (lv_at hl 0 rfl) ?_
      refine lv_if_eq (tgt := 12) hx hb dX7_copy_7 (by decide) (fun _ => ?_) (fun c => absurd (show (nI 0) = 0 by decide +kernel) c)
      refine lv_aload_n hx hb dX7_copy_12 rfl (lv_at hl 1 rfl) ?_
      refine g_get hC V (ci := 7) uwX7 0 rfl rfl 4 (by decide) w_253 rfl rfl dX7_copy_13 ?_
      refine lv_iload_n hx hb dX7_copy_16 rfl (lv_at hl 2 rfl) ?_
      refine g_aald hC V 1 5 rfl rfl (vp_in_nI (by decide) (by decide)) (v := .ref rd0) (by rw [nI_clamp (by decide)]; rfl) dX7_copy_17 ?_
      refine g_get hC V (ci := 1) uwX1 8 rfl rfl 1 (by decide) w_232 rfl rfl dX7_copy_18 ?_
      refine lv_aload_n hx hb dX7_copy_21 rfl (lv_at hl 1 rfl) ?_
      refine g_get hC V (ci := 7) uwX7 0 rfl rfl 0 (by decide) w_249 rfl rfl dX7_copy_22 ?_
      refine g_get hC V (ci := 5) uwX5 10 rfl rfl 0 (by decide) w_38 rfl rfl dX7_copy_25 ?_
      refine lv_icmp_ge (tgt := 34) hx hb dX7_copy_28 (by decide) (fun c_20 => ?_) (fun c_20 => ?_)
      · skip
        have c_20 := b_le (by omega) (by omega) c_20
        refine lv_iconst (v := (nI 0)) hx hb dX7_copy_34 (by decide +kernel) ?_
        refine lv_istore_n (lv' := [(3, .int (nI 0)), (2, .int (nI 0)), (0, .ref o), (1, .int (nI 3))]) hx hb dX7_copy_35 rfl hl (by decide) rfl (fun ls hl => ?_)
        have L_21 : ∀ (fu : Nat) (k36 : Nat) (rdG : Nat → Int64), k36 ≤ nn → (∀ i, i < k36 → rdG i = cutv rds (fa (24 + i)).toInt64) → (∀ i, k36 ≤ i → rdG i = rdf i) → nn - k36 < fu → ∀ (H : Heap) (locs : List Loc) (ls : Array Slot), gW D T A s [(o, .inr (7, [.ref n0, .ref s0, .ref im, .ref iz, .ref rw, .ref t0, .ref u0, .ref h0, .ref y0, sv])), (rw, .inl (T 5, 4, .inr (.inr (.inr (.inr (va_up (va_up (va_up (va_up (fun _ => none) 0 (some ra0)) 1 (some rb0)) 2 (some rc0)) 3 (some rd0))))))), (ra0, .inr (1, [.int rah, .int (nI raz), .ref ra1, .int (nI ras)])), (ra1, .inl (T 1, 40, .inr (.inl raf))), (rb0, .inr (1, [.int rbh, .int (nI rbz), .ref rb1, .int (nI rbs)])), (rb1, .inl (T 1, 40, .inr (.inl rbf))), (rc0, .inr (1, [.int rch, .int (nI rcz), .ref rc1, .int (nI rcs)])), (rc1, .inl (T 1, 40, .inr (.inl rcf))), (rd0, .inr (1, [.int rdh, .int (nI rdz), .ref rd1, .int (nI rds)])), (rd1, .inl (T 1, 40, .inr (.inl rdG))), (n0, .inr (5, [.int (nI nn), .int nm, .int nl, .int no, .int nu, .ref n1, .ref n2, .ref n3, .ref n4, .ref n5, .ref n6, .ref n7, .ref n8, .ref n9, .ref n10])), (n3, .inl (T 0, 10, .inl nf3))] H locs → lv_has ls 4 [(3, .int (nI k36)), (2, .int (nI 0)), (0, .ref o), (1, .int (nI 3))] → W p l e (rmD 2 0 0) s m args below meth c H locs 0 0 (MQ below (gQ D A (q_x_copy_f T fq fm fn nf1 nf2 nf4 nf5 nf6 nf7 nf9 fa o row n0 s0 im iz rw t0 u0 h0 y0 sv ra0 rb0 rc0 rd0 rah raz ra1 ras raf rbh rbz rb1 rbs rbf rch rcz rc1 rcs rcf rdh rdz rd1 rds rdf nn nm nl no nu n1 n2 n3 n4 n5 n6 n7 n8 n9 n10 nf3)) args s 0 0 A) (F0 m 36 ls []) := by
          intro fu_36
          induction fu_36 with
          | zero => intro k36 rdG hk36 hg1 hg2 hmu; exact absurd hmu (Nat.not_lt_zero _)
          | succ fu_36 ih_36 =>
            intro k36 rdG hk36 hg1 hg2 hmu_36 H locs ls V hl
            refine lv_iload_n hx hb dX7_copy_36 rfl (lv_at hl 0 rfl) ?_
            refine lv_aload_n hx hb dX7_copy_37 rfl (lv_at hl 2 rfl) ?_
            refine g_get hC V (ci := 7) uwX7 0 rfl rfl 0 (by decide) w_249 rfl rfl dX7_copy_38 ?_
            refine g_get hC V (ci := 5) uwX5 10 rfl rfl 0 (by decide) w_38 rfl rfl dX7_copy_41 ?_
            refine lv_icmp_ge (tgt := 73) hx hb dX7_copy_44 (by decide) (fun c_22 => ?_) (fun c_22 => ?_)
            · skip
              have c_22 := b_le (by omega) (by omega) c_22
              refine lv_aload_n hx hb dX7_copy_73 rfl (lv_at hl 2 rfl) ?_
              refine g_get hC V (ci := 7) uwX7 0 rfl rfl 0 (by decide) w_249 rfl rfl dX7_copy_74 ?_
              refine g_get hC V (ci := 5) uwX5 10 rfl rfl 0 (by decide) w_38 rfl rfl dX7_copy_77 ?_
              exact g_iret (Qr := (q_x_copy_f T fq fm fn nf1 nf2 nf4 nf5 nf6 nf7 nf9 fa o row n0 s0 im iz rw t0 u0 h0 y0 sv ra0 rb0 rc0 rd0 rah raz ra1 ras raf rbh rbz rb1 rbs rbf rch rcz rc1 rcs rcf rdh rdz rd1 rds rdf nn nm nl no nu n1 n2 n3 n4 n5 n6 n7 n8 n9 n10 nf3)) hC V ⟨(Nat.le_of_ble_eq_true rfl), (Nat.le_of_ble_eq_true rfl)⟩ ⟨(nI nn), raf, rbf, rcf, rdG, rfl, rfl, (by unfold cpA; rw [if_pos (rr_s ej_10 (by decide) hRk.1 (by omega)), ej_10, nI_clamp (by decide), hRk.2.1, if_neg (fun q => by have := b_lt (by omega) (by omega) q; omega)]), (RC_o (rr_s ej_10 (by decide) hRk.1 (by omega)) ej_10 (by decide) hRk.1 (by omega) hRk.2.1 (by omega) h_n (by omega) (by decide) (by omega) h_r0), (RC_o (rr_s ej_10 (by decide) hRk.1 (by omega)) ej_10 (by decide) hRk.1 (by omega) hRk.2.1 (by omega) h_n (by omega) (by decide) (by omega) h_r1), (RC_o (rr_s ej_10 (by decide) hRk.1 (by omega)) ej_10 (by decide) hRk.1 (by omega) hRk.2.1 (by omega) h_n (by omega) (by decide) (by omega) h_r2), (RC_s (rr_s ej_10 (by decide) hRk.1 (by omega)) ej_10 (by decide) hRk.1 (by omega) hRk.2.1 (by omega) h_n (by omega) h_r3 (fun i hi => hg1 i (by omega)) (fun i hi => hg2 i (by omega)))⟩ dX7_copy_80
            · skip
              have c_22 := b_nle (by omega) (by omega) c_22
              refine lv_aload_n hx hb dX7_copy_47 rfl (lv_at hl 2 rfl) ?_
              refine g_get hC V (ci := 7) uwX7 0 rfl rfl 4 (by decide) w_253 rfl rfl dX7_copy_48 ?_
              refine lv_iload_n hx hb dX7_copy_51 rfl (lv_at hl 3 rfl) ?_
              refine g_aald hC V 1 5 rfl rfl (vp_in_nI (by decide) (by decide)) (v := .ref rd0) (by rw [nI_clamp (by decide)]; rfl) dX7_copy_52 ?_
              refine lv_iload_n hx hb dX7_copy_53 rfl (lv_at hl 0 rfl) ?_
              refine lv_aload_n hx hb dX7_copy_54 rfl (lv_at hl 2 rfl) ?_
              refine g_get hC V (ci := 7) uwX7 0 rfl rfl 0 (by decide) w_249 rfl rfl dX7_copy_55 ?_
              refine g_get hC V (ci := 5) uwX5 10 rfl rfl 7 (by decide) w_65 rfl rfl dX7_copy_58 ?_
              refine lv_iload_n hx hb dX7_copy_61 rfl (lv_at hl 0 rfl) ?_
              refine g_iald hC V 11 rfl (vp_in_nI (by omega) (by omega)) (v := (nf3 k36)) (congrArg _ (nI_clamp (by omega))) dX7_copy_62 ?_
              refine lv_i2l (v := (nf3 k36).toInt64) hx hb dX7_copy_63 rfl ?_
              refine g_callVU (nA := 2) hC V hl.1 (r_put l D T rd0 k36 ((nf3 k36).toInt64) rdh rdz rd1 rds rdG (by first | assumption | omega) (by first | assumption | omega)) w_871 w_872 w_873 w_8 w_874 (by decide +kernel) rfl ⟨(Nat.le_of_ble_eq_true rfl), (Nat.le_of_ble_eq_true rfl)⟩ 8 (ci := 1) rfl rfl [8, 9] rfl rfl (Nat.le_of_ble_eq_true rfl) dX7_copy_64 ⟨(Nat.le_of_ble_eq_true rfl), (Nat.le_of_ble_eq_true rfl)⟩ rfl (fun r w1 H locs hQ V => ?_)
              obtain ⟨rfl, rfl⟩ := hQ
              have V : gW D T A s [(o, .inr (7, [.ref n0, .ref s0, .ref im, .ref iz, .ref rw, .ref t0, .ref u0, .ref h0, .ref y0, sv])), (rw, .inl (T 5, 4, .inr (.inr (.inr (.inr (va_up (va_up (va_up (va_up (fun _ => none) 0 (some ra0)) 1 (some rb0)) 2 (some rc0)) 3 (some rd0))))))), (ra0, .inr (1, [.int rah, .int (nI raz), .ref ra1, .int (nI ras)])), (ra1, .inl (T 1, 40, .inr (.inl raf))), (rb0, .inr (1, [.int rbh, .int (nI rbz), .ref rb1, .int (nI rbs)])), (rb1, .inl (T 1, 40, .inr (.inl rbf))), (rc0, .inr (1, [.int rch, .int (nI rcz), .ref rc1, .int (nI rcs)])), (rc1, .inl (T 1, 40, .inr (.inl rcf))), (rd0, .inr (1, [.int rdh, .int (nI rdz), .ref rd1, .int (nI rds)])), (rd1, .inl (T 1, 40, .inr (.inl (vp_updL rdG k36 (cutv rds ((nf3 k36).toInt64)))))), (n0, .inr (5, [.int (nI nn), .int nm, .int nl, .int no, .int nu, .ref n1, .ref n2, .ref n3, .ref n4, .ref n5, .ref n6, .ref n7, .ref n8, .ref n9, .ref n10])), (n3, .inl (T 0, 10, .inl nf3))] H locs := V _ [8, 0] rfl rfl rfl (by decide +kernel) rfl
              show W p l e _ s m args below meth c H locs _ _ _ (F0 m 67 ls [])
              refine lv_iinc (v := (nI (k36 + 1))) (lv' := [(3, .int (nI (k36 + 1))), (2, .int (nI 0)), (0, .ref o), (1, .int (nI 3))]) hx hb dX7_copy_67 hl (k := 0) rfl (nI_1 _) (by decide) rfl (fun ls hl => ?_)
              refine lv_goto (tgt := 36) hx hb dX7_copy_70 (by decide) ?_
              exact ih_36 (k36 + 1) (vp_updL rdG k36 (cutv rds ((nf3 k36).toInt64))) (by omega) (upL_one (p := fun i y => y = cutv rds (fa (24 + i)).toInt64) hg1 (by rw [(h_sr.2.2.2.2 k36 (by omega)).2.2.1])) (fun i hi => (upL_other (by omega)).trans (hg2 i (by omega))) (by omega) _ _ _ V (lv_sub hl [0, 1, 2, 3] rfl)
        exact L_21 _ 0 rdf (by omega) (fun i h => absurd h (Nat.not_lt_zero _)) (fun _ _ => rfl) (Nat.lt_succ_self _) _ _ _ V (lv_sub hl [0, 1, 2, 3] rfl)
      · skip
        have c_20 := b_nle (by omega) (by omega) c_20
        refine lv_bipush (v := (-7)) hx hb dX7_copy_31 (by decide +kernel) ?_
        exact g_iret (Qr := (q_x_copy_f T fq fm fn nf1 nf2 nf4 nf5 nf6 nf7 nf9 fa o row n0 s0 im iz rw t0 u0 h0 y0 sv ra0 rb0 rc0 rd0 rah raz ra1 ras raf rbh rbz rb1 rbs rbf rch rcz rc1 rcs rcf rdh rdz rd1 rds rdf nn nm nl no nu n1 n2 n3 n4 n5 n6 n7 n8 n9 n10 nf3)) hC V ⟨(Nat.le_of_ble_eq_true rfl), (Nat.le_of_ble_eq_true rfl)⟩ ⟨(-7), raf, rbf, rcf, rdf, rfl, rfl, (cp_7 (f := fa) (fn := fn) (rr_s ej_10 (by decide) hRk.1 (by omega)) ej_10 (by decide) hRk.2.1 (by omega) (by omega) (by omega)).1, (by rw [← (cp_7 (f := fa) (fn := fn) (rr_s ej_10 (by decide) hRk.1 (by omega)) ej_10 (by decide) hRk.2.1 (by omega) (by omega) (by omega)).2]; exact h_r0), (by rw [← (cp_7 (f := fa) (fn := fn) (rr_s ej_10 (by decide) hRk.1 (by omega)) ej_10 (by decide) hRk.2.1 (by omega) (by omega) (by omega)).2]; exact h_r1), (by rw [← (cp_7 (f := fa) (fn := fn) (rr_s ej_10 (by decide) hRk.1 (by omega)) ej_10 (by decide) hRk.2.1 (by omega) (by omega) (by omega)).2]; exact h_r2), (by rw [← (cp_7 (f := fa) (fn := fn) (rr_s ej_10 (by decide) hRk.1 (by omega)) ej_10 (by decide) hRk.2.1 (by omega) (by omega) (by omega)).2]; exact h_r3)⟩ dX7_copy_33
  · have V : gW D T A s [(o, .inr (7, [.ref n0, .ref s0, .ref im, .ref iz, .ref rw, .ref t0, .ref u0, .ref h0, .ref y0, sv])), (rw, .inl (T 5, 4, .inr (.inr (.inr (.inr (va_up (va_up (va_up (va_up (fun _ => none) 0 (some ra0)) 1 (some rb0)) 2 (some rc0)) 3 (some rd0))))))), (ra0, .inr (1, [.int rah, .int (nI raz), .ref ra1, .int (nI ras)])), (ra1, .inl (T 1, 40, .inr (.inl raf))), (rb0, .inr (1, [.int rbh, .int (nI rbz), .ref rb1, .int (nI rbs)])), (rb1, .inl (T 1, 40, .inr (.inl rbf))), (rc0, .inr (1, [.int rch, .int (nI rcz), .ref rc1, .int (nI rcs)])), (rc1, .inl (T 1, 40, .inr (.inl rcf))), (rd0, .inr (1, [.int rdh, .int (nI rdz), .ref rd1, .int (nI rds)])), (rd1, .inl (T 1, 40, .inr (.inl rdf))), (n0, .inr (5, [.int (nI nn), .int nm, .int nl, .int no, .int nu, .ref n1, .ref n2, .ref n3, .ref n4, .ref n5, .ref n6, .ref n7, .ref n8, .ref n9, .ref n10])), (n3, .inl (T 0, 10, .inl nf3))] H locs := V _ [0, 0, 0, 0, 0, 0, 0, 0, 0, 0] rfl rfl rfl (by decide +kernel) rfl
    show W p l e _ s m args below meth c H locs _ _ _ (F0 m 5 ls [.int z_7])
    refine lv_istore_n (lv' := [(2, .int z_7), (0, .ref o), (1, .int row)]) hx hb dX7_copy_5 rfl hl (by decide) rfl (fun ls hl => ?_)
    refine lv_iload_n hx hb dX7_copy_6 rfl (lv_at hl 0 rfl) ?_
    refine lv_if_eq (tgt := 12) hx hb dX7_copy_7 (by decide) (fun c_23 => ?_) (fun c_23 => ?_)
    · skip
      exact (absurd c_23 (by assumption) : False).elim
    · skip
      refine lv_iload_n hx hb dX7_copy_10 rfl (lv_at hl 0 rfl) ?_
      exact g_iret (Qr := (q_x_copy_f T fq fm fn nf1 nf2 nf4 nf5 nf6 nf7 nf9 fa o row n0 s0 im iz rw t0 u0 h0 y0 sv ra0 rb0 rc0 rd0 rah raz ra1 ras raf rbh rbz rb1 rbs rbf rch rcz rc1 rcs rcf rdh rdz rd1 rds rdf nn nm nl no nu n1 n2 n3 n4 n5 n6 n7 n8 n9 n10 nf3)) hC V ⟨(Nat.le_of_ble_eq_true rfl), (Nat.le_of_ble_eq_true rfl)⟩ ⟨z_7, raf, rbf, rcf, rdf, rfl, rfl, (cp_r (n := nn) (f := fa) (fn := fn) (fm := fm) (f_9.trans (rr_eq (RW_0 h_r0 h_sra) (RW_0 h_r1 h_srb) (RW_0 h_r2 h_src) (RW_0 h_r3 h_srd))) f_8).1, (by rw [← (cp_r (n := nn) (f := fa) (fn := fn) (fm := fm) (f_9.trans (rr_eq (RW_0 h_r0 h_sra) (RW_0 h_r1 h_srb) (RW_0 h_r2 h_src) (RW_0 h_r3 h_srd))) f_8).2]; exact h_r0), (by rw [← (cp_r (n := nn) (f := fa) (fn := fn) (fm := fm) (f_9.trans (rr_eq (RW_0 h_r0 h_sra) (RW_0 h_r1 h_srb) (RW_0 h_r2 h_src) (RW_0 h_r3 h_srd))) f_8).2]; exact h_r1), (by rw [← (cp_r (n := nn) (f := fa) (fn := fn) (fm := fm) (f_9.trans (rr_eq (RW_0 h_r0 h_sra) (RW_0 h_r1 h_srb) (RW_0 h_r2 h_src) (RW_0 h_r3 h_srd))) f_8).2]; exact h_r2), (by rw [← (cp_r (n := nn) (f := fa) (fn := fn) (fm := fm) (f_9.trans (rr_eq (RW_0 h_r0 h_sra) (RW_0 h_r1 h_srb) (RW_0 h_r2 h_src) (RW_0 h_r3 h_srd))) f_8).2]; exact h_r3)⟩ dX7_copy_11

def q_m_copy_f (T : Nat → ClassId) (n : Nat) (o : Nat) (row : Int32) (w0 : Int32) (g1 : Nat) (g2 : Nat) (g3 : Nat) (g4 : Nat) (tp : Nat) (w6 : Int32) (w7 : Int32) (w8 : Int32) (w9 : Int32) (w10 : Int32) (w11 : Int32) (w12 : Int32) (w13 : Int32) (w14 : Int32) (g15 : Nat) (w16 : Int32) (g17 : Nat) (w18 : Int32) (w19 : Int32) (g20 : Nat) (w21 : Int32) (g22 : Nat) (g23 : Nat) (g24 : Nat) (w25 : Int32) (w26 : Int32) (w27 : Int32) (g28 : Nat) (g29 : Nat) (w30 : Int32) (g31 : Nat) (g32 : Nat) (g33 : Nat) (fa : Nat → Int32) (fq : Nat → Int32) (fm : Nat → Int32) (fn : Nat → Int64) : Option Value → va_W → Prop := fun rr ww => (∃ (z : Int32) (gn : Nat → Int64), rr = some (.int z) ∧ ww = [(o, .inr (8, [.int (nI 0), .ref g1, .ref g2, .ref g3, .ref g4, .int (nI tp), .int w6, .int w7, .int w8, .int w9, .int w10, .int w11, .int w12, .int w13, .int w14, .ref g15, .int w16, .ref g17, .int w18, .int w19, .ref g20, .int w21, .ref g22, .ref g23, .ref g24, .int w25, .int w26, .int w27, .ref g28, .ref g29, .int w30, .ref g31, .ref g32, .ref g33])), (g1, .inl (T 0, 282, .inl fa)), (g31, .inl (T 0, 4, .inl fq)), (g32, .inl (T 0, 4, .inl fm)), (g33, .inl (T 1, 160, .inr (.inl gn)))] ∧ z = cpA n fq fm row ∧ gn = cpN n fa fn fq fm row)
set_option maxHeartbeats 4000000 in
set_option maxRecDepth 100000 in
theorem m_copy_f (l : Launch) (D : va_G) (T : Nat → ClassId) (n : Nat) (o : Nat) (row : Int32) (w0 : Int32) (g1 : Nat) (g2 : Nat) (g3 : Nat) (g4 : Nat) (tp : Nat) (w6 : Int32) (w7 : Int32) (w8 : Int32) (w9 : Int32) (w10 : Int32) (w11 : Int32) (w12 : Int32) (w13 : Int32) (w14 : Int32) (g15 : Nat) (w16 : Int32) (g17 : Nat) (w18 : Int32) (w19 : Int32) (g20 : Nat) (w21 : Int32) (g22 : Nat) (g23 : Nat) (g24 : Nat) (w25 : Int32) (w26 : Int32) (w27 : Int32) (g28 : Nat) (g29 : Nat) (w30 : Int32) (g31 : Nat) (g32 : Nat) (g33 : Nat) (fa : Nat → Int32) (fq : Nat → Int32) (fm : Nat → Int32) (fn : Nat → Int64) (h_a : MI n fa) (h_rm : ∀ i, i < 4 → bd (fm i) 41) (h_rs : ∀ i, i < 4 → (fq i = -1 ∨ bd (fq i) 4)) : Ct l yX8_copy cX8_copy 3 (some .int) 1 0 0 D T [.ref o, .int row] [(o, .inr (8, [.int w0, .ref g1, .ref g2, .ref g3, .ref g4, .int (nI tp), .int w6, .int w7, .int w8, .int w9, .int w10, .int w11, .int w12, .int w13, .int w14, .ref g15, .int w16, .ref g17, .int w18, .int w19, .ref g20, .int w21, .ref g22, .ref g23, .ref g24, .int w25, .int w26, .int w27, .ref g28, .ref g29, .int w30, .ref g31, .ref g32, .ref g33])), (g1, .inl (T 0, 282, .inl fa)), (g31, .inl (T 0, 4, .inl fq)), (g32, .inl (T 0, 4, .inl fm)), (g33, .inl (T 1, 160, .inr (.inl fn)))] (q_m_copy_f T n o row w0 g1 g2 g3 g4 tp w6 w7 w8 w9 w10 w11 w12 w13 w14 g15 w16 g17 w18 w19 g20 w21 g22 g23 g24 w25 w26 w27 g28 g29 w30 g31 g32 g33 fa fq fm fn) := by
  refine Ct.of (cc := cX8_copy) (maxL := 3) (ret := (some .int)) (by decide) (Nat.le_of_ble_eq_true rfl) ?_
  intro p e s m args below meth c A ls hC hnm V hl
  obtain ⟨hx, hb, hr, hml, hown, hts, hlocks⟩ := id hC
  generalize hH : s.heap = H at V ⊢
  clear hH
  have hl : lv_has ls 3 [(0, .ref o), (1, .int row)] := hl
  generalize hlo : ([] : List Loc) = locs at V ⊢
  clear hlo
  have ms0 := ms_rf h_a
  have hn10 := h_a.1
  refine lv_aload_n hx hb dX8_copy_0 rfl (lv_at hl 0 rfl) ?_
  refine lv_iconst (v := (nI 0)) hx hb dX8_copy_1 (by decide +kernel) ?_
  refine g_put hC V (ci := 8) uwX8 tyX8 tyX8_ok nmX8 0 rfl rfl 0 (by decide) w_912 rfl rfl rfl rfl (Nat.le_of_ble_eq_true rfl) (ws' := [(o, .inr (8, [.int (nI 0), .ref g1, .ref g2, .ref g3, .ref g4, .int (nI tp), .int w6, .int w7, .int w8, .int w9, .int w10, .int w11, .int w12, .int w13, .int w14, .ref g15, .int w16, .ref g17, .int w18, .int w19, .ref g20, .int w21, .ref g22, .ref g23, .ref g24, .int w25, .int w26, .int w27, .ref g28, .ref g29, .int w30, .ref g31, .ref g32, .ref g33])), (g1, .inl (T 0, 282, .inl fa)), (g31, .inl (T 0, 4, .inl fq)), (g32, .inl (T 0, 4, .inl fm)), (g33, .inl (T 1, 160, .inr (.inl fn)))]) rfl dX8_copy_2 (fun H locs V => ?_)
  refine lv_iload_n hx hb dX8_copy_5 rfl (lv_at hl 1 rfl) ?_
  refine lv_i2l (v := row.toInt64) hx hb dX8_copy_6 rfl ?_
  refine lv_lconst (v := (nI 0).toInt64) hx hb dX8_copy_7 (by decide +kernel) ?_
  refine lv_ldc2 (v := (3)) hx hb hown (hts _ w_1144) dX8_copy_8 ?_
  refine g_vl (y := (nI 3).toInt64) (by decide +kernel) ?_
  refine g_callSU (nA := 3) hC V hl.1 (m_within l D T row (nI 0) (nI 3)) w_1023 w_1024 w_9 w_1025 (by decide +kernel) rfl ⟨(Nat.le_of_ble_eq_true rfl), (Nat.le_of_ble_eq_true rfl)⟩ [] rfl rfl (Nat.le_of_ble_eq_true rfl) dX8_copy_11 ⟨(Nat.le_of_ble_eq_true rfl), (Nat.le_of_ble_eq_true rfl)⟩ rfl (fun r w1 H locs hQ V => ?_)
  rcases hQ with ⟨rfl, rfl, f_1, f_2⟩ | ⟨rfl, rfl, f_3⟩
  · have V : gW D T A s [(o, .inr (8, [.int (nI 0), .ref g1, .ref g2, .ref g3, .ref g4, .int (nI tp), .int w6, .int w7, .int w8, .int w9, .int w10, .int w11, .int w12, .int w13, .int w14, .ref g15, .int w16, .ref g17, .int w18, .int w19, .ref g20, .int w21, .ref g22, .ref g23, .ref g24, .int w25, .int w26, .int w27, .ref g28, .ref g29, .int w30, .ref g31, .ref g32, .ref g33])), (g1, .inl (T 0, 282, .inl fa)), (g31, .inl (T 0, 4, .inl fq)), (g32, .inl (T 0, 4, .inl fm)), (g33, .inl (T 1, 160, .inr (.inl fn)))] H locs := V _ [] rfl rfl rfl (by decide +kernel) rfl
    show W p l e _ s m args below meth c H locs _ _ _ (F0 m 14 ls [.int (nI 1)])
    obtain ⟨jr, hjr1, hjr2, ejr⟩ := g_rng (by decide) (by decide) f_1 f_2
    rw [ejr] at hl
    obtain ⟨mz, hmz, emz⟩ := h_rm jr (by omega)
    refine lv_if_ne (tgt := 20) hx hb dX8_copy_14 (by decide) (fun _ => ?_) (fun c => absurd (show (nI 1) = 0 from c) (by decide +kernel))
    refine lv_aload_n hx hb dX8_copy_20 rfl (lv_at hl 0 rfl) ?_
    refine g_get hC V (ci := 8) uwX8 0 rfl rfl 31 (by decide) w_943 rfl rfl dX8_copy_21 ?_
    refine lv_iload_n hx hb dX8_copy_24 rfl (lv_at hl 1 rfl) ?_
    refine g_iald hC V 2 rfl (vp_in_nI (by omega) (by omega)) (v := (fq jr)) (congrArg _ (nI_clamp (by omega))) dX8_copy_25 ?_
    refine lv_iconst (v := (-1)) hx hb dX8_copy_26 (by decide +kernel) ?_
    refine lv_icmp_ne (tgt := 33) hx hb dX8_copy_27 (by decide) (fun c_4 => ?_) (fun c_4 => ?_)
    · skip
      have hq1 := c_4
      obtain ⟨so, hso, eso⟩ := (h_rs jr (by omega)).resolve_left c_4
      refine lv_aload_n hx hb dX8_copy_33 rfl (lv_at hl 0 rfl) ?_
      refine g_get hC V (ci := 8) uwX8 0 rfl rfl 32 (by decide) w_944 rfl rfl dX8_copy_34 ?_
      refine lv_iload_n hx hb dX8_copy_37 rfl (lv_at hl 1 rfl) ?_
      refine g_iald hC V 3 rfl (vp_in_nI (by omega) (by omega)) (v := (nI mz)) (by rw [nI_clamp (by omega)]; exact emz) dX8_copy_38 ?_
      refine lv_aload_n hx hb dX8_copy_39 rfl (lv_at hl 0 rfl) ?_
      refine g_get hC V (ci := 8) uwX8 0 rfl rfl 1 (by decide) w_913 rfl rfl dX8_copy_40 ?_
      refine lv_iconst (v := (nI 0)) hx hb dX8_copy_43 (by decide +kernel) ?_
      refine g_iald hC V 1 rfl (vp_in_nI (by decide) (by decide)) (v := (nI n)) (by rw [nI_clamp (by decide)]; first | rfl | exact h_a.2.1) dX8_copy_44 ?_
      refine lv_icmp_ge (tgt := 51) hx hb dX8_copy_45 (by decide) (fun c_5 => ?_) (fun c_5 => ?_)
      · skip
        have c_5 := b_le (by omega) (by omega) c_5
        refine lv_iconst (v := (nI 0)) hx hb dX8_copy_51 (by decide +kernel) ?_
        refine lv_istore_n (lv' := [(2, .int (nI 0)), (0, .ref o), (1, .int (nI jr))]) hx hb dX8_copy_52 rfl hl (by decide) rfl (fun ls hl => ?_)
        have L_6 : ∀ (fu : Nat) (k53 : Nat) (gz : Nat → Int64), k53 ≤ n → (∀ j, j < k53 → gz (40 * jr + j) = cutv so (fa (24 + j)).toInt64) → (∀ j, (j < 40 * jr ∨ 40 * jr + k53 ≤ j) → gz j = fn j) → n - k53 < fu → ∀ (H : Heap) (locs : List Loc) (ls : Array Slot), gW D T A s [(o, .inr (8, [.int (nI 0), .ref g1, .ref g2, .ref g3, .ref g4, .int (nI tp), .int w6, .int w7, .int w8, .int w9, .int w10, .int w11, .int w12, .int w13, .int w14, .ref g15, .int w16, .ref g17, .int w18, .int w19, .ref g20, .int w21, .ref g22, .ref g23, .ref g24, .int w25, .int w26, .int w27, .ref g28, .ref g29, .int w30, .ref g31, .ref g32, .ref g33])), (g1, .inl (T 0, 282, .inl fa)), (g31, .inl (T 0, 4, .inl fq)), (g32, .inl (T 0, 4, .inl fm)), (g33, .inl (T 1, 160, .inr (.inl gz)))] H locs → lv_has ls 3 [(2, .int (nI k53)), (0, .ref o), (1, .int (nI jr))] → W p l e (rmD 1 0 0) s m args below meth c H locs 0 0 (MQ below (gQ D A (q_m_copy_f T n o row w0 g1 g2 g3 g4 tp w6 w7 w8 w9 w10 w11 w12 w13 w14 g15 w16 g17 w18 w19 g20 w21 g22 g23 g24 w25 w26 w27 g28 g29 w30 g31 g32 g33 fa fq fm fn)) args s 0 0 A) (F0 m 53 ls []) := by
          intro fu_53
          induction fu_53 with
          | zero => intro k53 gz hk53 hz1 hz2 hmu; exact absurd hmu (Nat.not_lt_zero _)
          | succ fu_53 ih_53 =>
            intro k53 gz hk53 hz1 hz2 hmu_53 H locs ls V hl
            refine lv_iload_n hx hb dX8_copy_53 rfl (lv_at hl 0 rfl) ?_
            refine lv_aload_n hx hb dX8_copy_54 rfl (lv_at hl 1 rfl) ?_
            refine g_get hC V (ci := 8) uwX8 0 rfl rfl 1 (by decide) w_913 rfl rfl dX8_copy_55 ?_
            refine lv_iconst (v := (nI 0)) hx hb dX8_copy_58 (by decide +kernel) ?_
            refine g_iald hC V 1 rfl (vp_in_nI (by decide) (by decide)) (v := (nI n)) (by rw [nI_clamp (by decide)]; first | rfl | exact h_a.2.1) dX8_copy_59 ?_
            refine lv_icmp_ge (tgt := 99) hx hb dX8_copy_60 (by decide) (fun c_7 => ?_) (fun c_7 => ?_)
            · skip
              have c_7 := b_le (by omega) (by omega) c_7
              refine lv_aload_n hx hb dX8_copy_99 rfl (lv_at hl 1 rfl) ?_
              refine g_get hC V (ci := 8) uwX8 0 rfl rfl 1 (by decide) w_913 rfl rfl dX8_copy_100 ?_
              refine lv_iconst (v := (nI 0)) hx hb dX8_copy_103 (by decide +kernel) ?_
              refine g_iald hC V 1 rfl (vp_in_nI (by decide) (by decide)) (v := (nI n)) (by rw [nI_clamp (by decide)]; first | rfl | exact h_a.2.1) dX8_copy_104 ?_
              exact g_iret (Qr := (q_m_copy_f T n o row w0 g1 g2 g3 g4 tp w6 w7 w8 w9 w10 w11 w12 w13 w14 g15 w16 g17 w18 w19 g20 w21 g22 g23 g24 w25 w26 w27 g28 g29 w30 g31 g32 g33 fa fq fm fn)) hC V ⟨(Nat.le_of_ble_eq_true rfl), (Nat.le_of_ble_eq_true rfl)⟩ ⟨(nI n), gz, rfl, rfl, (cp_y (f := fa) (rr_0 ejr (by omega) hq1) ejr (by omega) eso (by omega) emz (by omega) hn10 (by omega) (fun j hj => hz1 j (by omega)) (fun j hj => hz2 j (by omega))).1, (cp_y (f := fa) (rr_0 ejr (by omega) hq1) ejr (by omega) eso (by omega) emz (by omega) hn10 (by omega) (fun j hj => hz1 j (by omega)) (fun j hj => hz2 j (by omega))).2⟩ dX8_copy_105
            · skip
              have c_7 := b_nle (by omega) (by omega) c_7
              refine lv_aload_n hx hb dX8_copy_63 rfl (lv_at hl 1 rfl) ?_
              refine g_get hC V (ci := 8) uwX8 0 rfl rfl 33 (by decide) w_945 rfl rfl dX8_copy_64 ?_
              refine lv_bipush (v := (nI 40)) hx hb dX8_copy_67 (by decide +kernel) ?_
              refine lv_iload_n hx hb dX8_copy_69 rfl (lv_at hl 2 rfl) ?_
              refine lv_imul hx hb dX8_copy_70 ?_
              refine g_vi (y := (nI (40 * jr))) (pk_mul _ _) ?_
              refine lv_iload_n hx hb dX8_copy_71 rfl (lv_at hl 0 rfl) ?_
              refine lv_iadd hx hb dX8_copy_72 ?_
              refine g_vi (y := (nI ((40 * jr) + k53))) (nI_add _ _) ?_
              refine lv_aload_n hx hb dX8_copy_73 rfl (lv_at hl 1 rfl) ?_
              refine g_get hC V (ci := 8) uwX8 0 rfl rfl 1 (by decide) w_913 rfl rfl dX8_copy_74 ?_
              refine lv_bipush (v := (nI 24)) hx hb dX8_copy_77 (by decide +kernel) ?_
              refine lv_iload_n hx hb dX8_copy_79 rfl (lv_at hl 0 rfl) ?_
              refine lv_iadd hx hb dX8_copy_80 ?_
              refine g_vi (y := (nI (24 + k53))) (nI_add _ _) ?_
              obtain ⟨j_8, hj_8, ej_8⟩ := bd_ex (mi_heat h_a (i := k53) (by omega))
              refine g_iald hC V 1 rfl (vp_in_nI (by omega) (by omega)) (v := (nI j_8)) (by rw [nI_clamp (by omega)]; exact ej_8) dX8_copy_81 ?_
              refine lv_i2l (v := (nI j_8).toInt64) hx hb dX8_copy_82 rfl ?_
              refine lv_aload_n hx hb dX8_copy_83 rfl (lv_at hl 1 rfl) ?_
              refine g_get hC V (ci := 8) uwX8 0 rfl rfl 31 (by decide) w_943 rfl rfl dX8_copy_84 ?_
              refine lv_iload_n hx hb dX8_copy_87 rfl (lv_at hl 2 rfl) ?_
              refine g_iald hC V 2 rfl (vp_in_nI (by omega) (by omega)) (v := (fq jr)) (congrArg _ (nI_clamp (by omega))) dX8_copy_88 ?_
              refine g_callSU (nA := 2) hC V hl.1 (m_cut_f l D T ((nI j_8).toInt64) (fq jr) ⟨so, hso, eso⟩) w_1384 w_1385 w_9 w_1386 (by decide +kernel) rfl ⟨(Nat.le_of_ble_eq_true rfl), (Nat.le_of_ble_eq_true rfl)⟩ [] rfl rfl (Nat.le_of_ble_eq_true rfl) dX8_copy_89 ⟨(Nat.le_of_ble_eq_true rfl), (Nat.le_of_ble_eq_true rfl)⟩ rfl (fun r w1 H locs hQ V => ?_)
              obtain ⟨z_9, rfl, rfl, f_10⟩ := hQ
              have V : gW D T A s [(o, .inr (8, [.int (nI 0), .ref g1, .ref g2, .ref g3, .ref g4, .int (nI tp), .int w6, .int w7, .int w8, .int w9, .int w10, .int w11, .int w12, .int w13, .int w14, .ref g15, .int w16, .ref g17, .int w18, .int w19, .ref g20, .int w21, .ref g22, .ref g23, .ref g24, .int w25, .int w26, .int w27, .ref g28, .ref g29, .int w30, .ref g31, .ref g32, .ref g33])), (g1, .inl (T 0, 282, .inl fa)), (g31, .inl (T 0, 4, .inl fq)), (g32, .inl (T 0, 4, .inl fm)), (g33, .inl (T 1, 160, .inr (.inl gz)))] H locs := V _ [] rfl rfl rfl (by decide +kernel) rfl
              show W p l e _ s m args below meth c H locs _ _ _ (F0 m 92 ls [.long z_9, .int (nI ((40 * jr) + k53)), .ref g33])
              have ecz : z_9 = cutv so (fa (24 + k53)).toInt64 := by rw [f_10, eso, nI_clamp (by omega), ej_8]
              refine g_last hC V 4 rfl (vp_in_nI (by omega) (by omega)) (f' := (vp_updL gz ((40 * jr) + k53) z_9)) (by rw [nI_clamp (by omega)]) (ws' := [(o, .inr (8, [.int (nI 0), .ref g1, .ref g2, .ref g3, .ref g4, .int (nI tp), .int w6, .int w7, .int w8, .int w9, .int w10, .int w11, .int w12, .int w13, .int w14, .ref g15, .int w16, .ref g17, .int w18, .int w19, .ref g20, .int w21, .ref g22, .ref g23, .ref g24, .int w25, .int w26, .int w27, .ref g28, .ref g29, .int w30, .ref g31, .ref g32, .ref g33])), (g1, .inl (T 0, 282, .inl fa)), (g31, .inl (T 0, 4, .inl fq)), (g32, .inl (T 0, 4, .inl fm)), (g33, .inl (T 1, 160, .inr (.inl (vp_updL gz ((40 * jr) + k53) z_9))))]) rfl dX8_copy_92 (fun H locs V => ?_)
              refine lv_iinc (v := (nI (k53 + 1))) (lv' := [(2, .int (nI (k53 + 1))), (0, .ref o), (1, .int (nI jr))]) hx hb dX8_copy_93 hl (k := 0) rfl (nI_1 _) (by decide) rfl (fun ls hl => ?_)
              refine lv_goto (tgt := 53) hx hb dX8_copy_96 (by decide) ?_
              exact ih_53 (k53 + 1) (vp_updL gz ((40 * jr) + k53) z_9) (by omega) (uL_bk (p := fun j => cutv so (fa (24 + j)).toInt64) hz1 ecz) (fun j hj => (upL_other (by omega)).trans (hz2 j (by omega))) (by omega) _ _ _ V (lv_sub hl [0, 1, 2] rfl)
        exact L_6 _ 0 fn (by omega) (fun i h => absurd h (Nat.not_lt_zero _)) (fun _ _ => rfl) (Nat.lt_succ_self _) _ _ _ V (lv_sub hl [0, 1, 2] rfl)
      · skip
        have c_5 := b_nle (by omega) (by omega) c_5
        refine lv_bipush (v := (-7)) hx hb dX8_copy_48 (by decide +kernel) ?_
        exact g_iret (Qr := (q_m_copy_f T n o row w0 g1 g2 g3 g4 tp w6 w7 w8 w9 w10 w11 w12 w13 w14 g15 w16 g17 w18 w19 g20 w21 g22 g23 g24 w25 w26 w27 g28 g29 w30 g31 g32 g33 fa fq fm fn)) hC V ⟨(Nat.le_of_ble_eq_true rfl), (Nat.le_of_ble_eq_true rfl)⟩ ⟨(-7), fn, rfl, rfl, (cp_7 (f := fa) (fn := fn) (rr_0 ejr (by omega) hq1) ejr (by omega) emz (by omega) hn10 (by omega)).1, (cp_7 (f := fa) (fn := fn) (rr_0 ejr (by omega) hq1) ejr (by omega) emz (by omega) hn10 (by omega)).2⟩ dX8_copy_50
    · skip
      have hq0 := c_4
      refine lv_bipush (v := (-6)) hx hb dX8_copy_30 (by decide +kernel) ?_
      exact g_iret (Qr := (q_m_copy_f T n o row w0 g1 g2 g3 g4 tp w6 w7 w8 w9 w10 w11 w12 w13 w14 g15 w16 g17 w18 w19 g20 w21 g22 g23 g24 w25 w26 w27 g28 g29 w30 g31 g32 g33 fa fq fm fn)) hC V ⟨(Nat.le_of_ble_eq_true rfl), (Nat.le_of_ble_eq_true rfl)⟩ ⟨(-6), fn, rfl, rfl, (cp_r (n := n) (f := fa) (fn := fn) (fm := fm) (rr_6 ejr (by omega) hq0) (by decide +kernel)).1, (cp_r (n := n) (f := fa) (fn := fn) (fm := fm) (rr_6 ejr (by omega) hq0) (by decide +kernel)).2⟩ dX8_copy_32
  · have V : gW D T A s [(o, .inr (8, [.int (nI 0), .ref g1, .ref g2, .ref g3, .ref g4, .int (nI tp), .int w6, .int w7, .int w8, .int w9, .int w10, .int w11, .int w12, .int w13, .int w14, .ref g15, .int w16, .ref g17, .int w18, .int w19, .ref g20, .int w21, .ref g22, .ref g23, .ref g24, .int w25, .int w26, .int w27, .ref g28, .ref g29, .int w30, .ref g31, .ref g32, .ref g33])), (g1, .inl (T 0, 282, .inl fa)), (g31, .inl (T 0, 4, .inl fq)), (g32, .inl (T 0, 4, .inl fm)), (g33, .inl (T 1, 160, .inr (.inl fn)))] H locs := V _ [] rfl rfl rfl (by decide +kernel) rfl
    show W p l e _ s m args below meth c H locs _ _ _ (F0 m 14 ls [.int (nI 0)])
    have r0 : (row < 0 ∨ nI 4 ≤ row) := nv_r rfl (by decide) f_3
    refine lv_if_ne (tgt := 20) hx hb dX8_copy_14 (by decide) (fun c => absurd (show (nI 0) = 0 by decide +kernel) c) (fun _ => ?_)
    refine lv_bipush (v := (-2)) hx hb dX8_copy_17 (by decide +kernel) ?_
    exact g_iret (Qr := (q_m_copy_f T n o row w0 g1 g2 g3 g4 tp w6 w7 w8 w9 w10 w11 w12 w13 w14 g15 w16 g17 w18 w19 g20 w21 g22 g23 g24 w25 w26 w27 g28 g29 w30 g31 g32 g33 fa fq fm fn)) hC V ⟨(Nat.le_of_ble_eq_true rfl), (Nat.le_of_ble_eq_true rfl)⟩ ⟨(-2), fn, rfl, rfl, (cp_r (n := n) (f := fa) (fn := fn) (fm := fm) (rr_2 r0) (by decide +kernel)).1, (cp_r (n := n) (f := fa) (fn := fn) (fm := fm) (rr_2 r0) (by decide +kernel)).2⟩ dX8_copy_19

def q_m_withinL_f (T : Nat → ClassId) (v : Int64) (lo : Int64) (hi : Int64) : Option Value → va_W → Prop := fun rr ww => (rr = some (.int (nI 1)) ∧ ww = [] ∧ ¬ (v < lo ∨ hi < v)) ∨ (rr = some (.int (nI 0)) ∧ ww = [] ∧ (v < lo ∨ hi < v))
set_option maxHeartbeats 4000000 in
set_option maxRecDepth 100000 in
theorem m_withinL_f (l : Launch) (D : va_G) (T : Nat → ClassId) (v : Int64) (lo : Int64) (hi : Int64) : Ct l yX8_within cX8_within 6 (some .boolean) 0 0 0 D T [.long v, .long lo, .long hi] [] (q_m_withinL_f T v lo hi) := by
  refine Ct.of (cc := cX8_within) (maxL := 6) (ret := (some .boolean)) (by decide) (Nat.le_of_ble_eq_true rfl) ?_
  intro p e s m args below meth c A ls hC hnm V hl
  obtain ⟨hx, hb, hr, hml, hown, hts, hlocks⟩ := id hC
  generalize hH : s.heap = H at V ⊢
  clear hH
  have hl : lv_has ls 6 [(0, .long v), (2, .long lo), (4, .long hi)] := hl
  generalize hlo : ([] : List Loc) = locs at V ⊢
  clear hlo
  refine lv_lload_n hx hb dX8_within_0 rfl (lv_at hl 0 rfl) ?_
  refine lv_lload_n hx hb dX8_within_1 rfl (lv_at hl 1 rfl) ?_
  refine W.lcmp hx hb dX8_within_2 ?_
  refine lv_if_lt (tgt := 17) hx hb dX8_within_3 (by decide) (fun c_1 => ?_) (fun c_1 => ?_)
  · skip
    have c_1 := (lg_cmp_lt _ _).mp c_1
    refine lv_iconst (v := (nI 0)) hx hb dX8_within_17 (by decide +kernel) ?_
    exact g_zret (Qr := (q_m_withinL_f T v lo hi)) hC V ⟨(Nat.le_of_ble_eq_true rfl), (Nat.le_of_ble_eq_true rfl)⟩ (by first | decide +kernel | exact rfl) (.inr ⟨rfl, rfl, (by first | exact Or.inl (by assumption) | exact Or.inr (by assumption))⟩) dX8_within_18
  · skip
    have c_1 := fun h => c_1 ((lg_cmp_lt _ _).mpr h)
    refine lv_lload_n hx hb dX8_within_6 rfl (lv_at hl 0 rfl) ?_
    refine lv_lload hx hb dX8_within_7 (lv_at hl 2 rfl) ?_
    refine W.lcmp hx hb dX8_within_9 ?_
    refine lv_if_gt (tgt := 17) hx hb dX8_within_10 (by decide) (fun c_2 => ?_) (fun c_2 => ?_)
    · skip
      have c_2 := (lg_cmp_gt _ _).mp c_2
      refine lv_iconst (v := (nI 0)) hx hb dX8_within_17 (by decide +kernel) ?_
      exact g_zret (Qr := (q_m_withinL_f T v lo hi)) hC V ⟨(Nat.le_of_ble_eq_true rfl), (Nat.le_of_ble_eq_true rfl)⟩ (by first | decide +kernel | exact rfl) (.inr ⟨rfl, rfl, (by first | exact Or.inl (by assumption) | exact Or.inr (by assumption))⟩) dX8_within_18
    · skip
      have c_2 := fun h => c_2 ((lg_cmp_gt _ _).mpr h)
      refine lv_iconst (v := (nI 1)) hx hb dX8_within_13 (by decide +kernel) ?_
      refine lv_goto (tgt := 18) hx hb dX8_within_14 (by decide) ?_
      exact g_zret (Qr := (q_m_withinL_f T v lo hi)) hC V ⟨(Nat.le_of_ble_eq_true rfl), (Nat.le_of_ble_eq_true rfl)⟩ (by first | decide +kernel | exact rfl) (.inl ⟨rfl, rfl, (fun q => q.elim (by assumption) (by assumption))⟩) dX8_within_18

def q_m_isSetL_f (T : Nat → ClassId) (n : Nat) (o : Nat) (v : Int64) (w0 : Int32) (g1 : Nat) (g2 : Nat) (g3 : Nat) (g4 : Nat) (tp : Nat) (w6 : Int32) (w7 : Int32) (w8 : Int32) (w9 : Int32) (w10 : Int32) (w11 : Int32) (w12 : Int32) (w13 : Int32) (w14 : Int32) (g15 : Nat) (w16 : Int32) (g17 : Nat) (w18 : Int32) (w19 : Int32) (g20 : Nat) (w21 : Int32) (g22 : Nat) (g23 : Nat) (g24 : Nat) (w25 : Int32) (w26 : Int32) (w27 : Int32) (g28 : Nat) (g29 : Nat) (w30 : Int32) (g31 : Nat) (g32 : Nat) (g33 : Nat) (fa : Nat → Int32) : Option Value → va_W → Prop := fun rr ww => (rr = some (.int (nI 1)) ∧ ww = [(o, .inr (8, [.int w0, .ref g1, .ref g2, .ref g3, .ref g4, .int (nI tp), .int w6, .int w7, .int w8, .int w9, .int w10, .int w11, .int w12, .int w13, .int w14, .ref g15, .int w16, .ref g17, .int w18, .int w19, .ref g20, .int w21, .ref g22, .ref g23, .ref g24, .int w25, .int w26, .int w27, .ref g28, .ref g29, .int w30, .ref g31, .ref g32, .ref g33])), (g1, .inl (T 0, 282, .inl fa))] ∧ setL n v) ∨ (rr = some (.int (nI 0)) ∧ ww = [(o, .inr (8, [.int w0, .ref g1, .ref g2, .ref g3, .ref g4, .int (nI tp), .int w6, .int w7, .int w8, .int w9, .int w10, .int w11, .int w12, .int w13, .int w14, .ref g15, .int w16, .ref g17, .int w18, .int w19, .ref g20, .int w21, .ref g22, .ref g23, .ref g24, .int w25, .int w26, .int w27, .ref g28, .ref g29, .int w30, .ref g31, .ref g32, .ref g33])), (g1, .inl (T 0, 282, .inl fa))] ∧ ¬ setL n v)
set_option maxHeartbeats 4000000 in
set_option maxRecDepth 100000 in
theorem m_isSetL_f (l : Launch) (D : va_G) (T : Nat → ClassId) (n : Nat) (o : Nat) (v : Int64) (w0 : Int32) (g1 : Nat) (g2 : Nat) (g3 : Nat) (g4 : Nat) (tp : Nat) (w6 : Int32) (w7 : Int32) (w8 : Int32) (w9 : Int32) (w10 : Int32) (w11 : Int32) (w12 : Int32) (w13 : Int32) (w14 : Int32) (g15 : Nat) (w16 : Int32) (g17 : Nat) (w18 : Int32) (w19 : Int32) (g20 : Nat) (w21 : Int32) (g22 : Nat) (g23 : Nat) (g24 : Nat) (w25 : Int32) (w26 : Int32) (w27 : Int32) (g28 : Nat) (g29 : Nat) (w30 : Int32) (g31 : Nat) (g32 : Nat) (g33 : Nat) (fa : Nat → Int32) (h_a : MI n fa) : Ct l yX8_isSet cX8_isSet 3 (some .boolean) 1 0 0 D T [.ref o, .long v] [(o, .inr (8, [.int w0, .ref g1, .ref g2, .ref g3, .ref g4, .int (nI tp), .int w6, .int w7, .int w8, .int w9, .int w10, .int w11, .int w12, .int w13, .int w14, .ref g15, .int w16, .ref g17, .int w18, .int w19, .ref g20, .int w21, .ref g22, .ref g23, .ref g24, .int w25, .int w26, .int w27, .ref g28, .ref g29, .int w30, .ref g31, .ref g32, .ref g33])), (g1, .inl (T 0, 282, .inl fa))] (q_m_isSetL_f T n o v w0 g1 g2 g3 g4 tp w6 w7 w8 w9 w10 w11 w12 w13 w14 g15 w16 g17 w18 w19 g20 w21 g22 g23 g24 w25 w26 w27 g28 g29 w30 g31 g32 g33 fa) := by
  refine Ct.of (cc := cX8_isSet) (maxL := 3) (ret := (some .boolean)) (by decide) (Nat.le_of_ble_eq_true rfl) ?_
  intro p e s m args below meth c A ls hC hnm V hl
  obtain ⟨hx, hb, hr, hml, hown, hts, hlocks⟩ := id hC
  generalize hH : s.heap = H at V ⊢
  clear hH
  have hl : lv_has ls 3 [(0, .ref o), (1, .long v)] := hl
  generalize hlo : ([] : List Loc) = locs at V ⊢
  clear hlo
  have ms0 := ms_rf h_a
  have hn10 := h_a.1
  refine lv_lload_n hx hb dX8_isSet_0 rfl (lv_at hl 1 rfl) ?_
  refine lv_lconst (v := (nI 0).toInt64) hx hb dX8_isSet_1 (by decide +kernel) ?_
  refine lv_lconst (v := (nI 1).toInt64) hx hb dX8_isSet_2 (by decide +kernel) ?_
  refine lv_aload_n hx hb dX8_isSet_3 rfl (lv_at hl 0 rfl) ?_
  refine g_get hC V (ci := 8) uwX8 0 rfl rfl 1 (by decide) w_913 rfl rfl dX8_isSet_4 ?_
  refine lv_iconst (v := (nI 0)) hx hb dX8_isSet_7 (by decide +kernel) ?_
  refine g_iald hC V 1 rfl (vp_in_nI (by decide) (by decide)) (v := (nI n)) (by rw [nI_clamp (by decide)]; first | rfl | exact h_a.2.1) dX8_isSet_8 ?_
  refine lv_lshl hx hb dX8_isSet_9 rfl ?_
  refine lv_lconst (v := (nI 1).toInt64) hx hb dX8_isSet_10 (by decide +kernel) ?_
  refine lv_lsub hx hb dX8_isSet_11 ?_
  refine g_vl (y := (nI (2 ^ n - 1)).toInt64) (set_m1 (by omega)) ?_
  refine g_callSU (nA := 3) hC V hl.1 (m_withinL_f l D T v ((nI 0).toInt64) ((nI (2 ^ n - 1)).toInt64)) w_1023 w_1024 w_9 w_1025 (by decide +kernel) rfl ⟨(Nat.le_of_ble_eq_true rfl), (Nat.le_of_ble_eq_true rfl)⟩ [] rfl rfl (Nat.le_of_ble_eq_true rfl) dX8_isSet_12 ⟨(Nat.le_of_ble_eq_true rfl), (Nat.le_of_ble_eq_true rfl)⟩ rfl (fun r w1 H locs hQ V => ?_)
  rcases hQ with ⟨rfl, rfl, f_1⟩ | ⟨rfl, rfl, f_2⟩
  · have V : gW D T A s [(o, .inr (8, [.int w0, .ref g1, .ref g2, .ref g3, .ref g4, .int (nI tp), .int w6, .int w7, .int w8, .int w9, .int w10, .int w11, .int w12, .int w13, .int w14, .ref g15, .int w16, .ref g17, .int w18, .int w19, .ref g20, .int w21, .ref g22, .ref g23, .ref g24, .int w25, .int w26, .int w27, .ref g28, .ref g29, .int w30, .ref g31, .ref g32, .ref g33])), (g1, .inl (T 0, 282, .inl fa))] H locs := V _ [] rfl rfl rfl (by decide +kernel) rfl
    show W p l e _ s m args below meth c H locs _ _ _ (F0 m 15 ls [.int (nI 1)])
    exact g_zret (Qr := (q_m_isSetL_f T n o v w0 g1 g2 g3 g4 tp w6 w7 w8 w9 w10 w11 w12 w13 w14 g15 w16 g17 w18 w19 g20 w21 g22 g23 g24 w25 w26 w27 g28 g29 w30 g31 g32 g33 fa)) hC V ⟨(Nat.le_of_ble_eq_true rfl), (Nat.le_of_ble_eq_true rfl)⟩ (by first | decide +kernel | exact rfl) (.inl ⟨rfl, rfl, f_1⟩) dX8_isSet_15
  · have V : gW D T A s [(o, .inr (8, [.int w0, .ref g1, .ref g2, .ref g3, .ref g4, .int (nI tp), .int w6, .int w7, .int w8, .int w9, .int w10, .int w11, .int w12, .int w13, .int w14, .ref g15, .int w16, .ref g17, .int w18, .int w19, .ref g20, .int w21, .ref g22, .ref g23, .ref g24, .int w25, .int w26, .int w27, .ref g28, .ref g29, .int w30, .ref g31, .ref g32, .ref g33])), (g1, .inl (T 0, 282, .inl fa))] H locs := V _ [] rfl rfl rfl (by decide +kernel) rfl
    show W p l e _ s m args below meth c H locs _ _ _ (F0 m 15 ls [.int (nI 0)])
    exact g_zret (Qr := (q_m_isSetL_f T n o v w0 g1 g2 g3 g4 tp w6 w7 w8 w9 w10 w11 w12 w13 w14 g15 w16 g17 w18 w19 g20 w21 g22 g23 g24 w25 w26 w27 g28 g29 w30 g31 g32 g33 fa)) hC V ⟨(Nat.le_of_ble_eq_true rfl), (Nat.le_of_ble_eq_true rfl)⟩ (by first | decide +kernel | exact rfl) (.inr ⟨rfl, rfl, (fun h => h f_2)⟩) dX8_isSet_15

def q_m_whyNot_f (T : Nat → ClassId) (mz : Nat) (n : Nat) (o : Nat) (r : Nat) (k : Nat) (w0 : Int32) (g1 : Nat) (g2 : Nat) (g3 : Nat) (g4 : Nat) (tp : Nat) (w6 : Int32) (w7 : Int32) (w8 : Int32) (w9 : Int32) (w10 : Int32) (w11 : Int32) (w12 : Int32) (w13 : Int32) (w14 : Int32) (g15 : Nat) (w16 : Int32) (g17 : Nat) (w18 : Int32) (w19 : Int32) (g20 : Nat) (w21 : Int32) (g22 : Nat) (g23 : Nat) (g24 : Nat) (w25 : Int32) (w26 : Int32) (w27 : Int32) (g28 : Nat) (g29 : Nat) (w30 : Int32) (g31 : Nat) (g32 : Nat) (g33 : Nat) (fa : Nat → Int32) (fm : Nat → Int32) (fn : Nat → Int64) : Option Value → va_W → Prop := fun rr ww => (rr = some (.int (nI 0)) ∧ ww = [(o, .inr (8, [.int w0, .ref g1, .ref g2, .ref g3, .ref g4, .int (nI tp), .int w6, .int w7, .int w8, .int w9, .int w10, .int w11, .int w12, .int w13, .int w14, .ref g15, .int w16, .ref g17, .int w18, .int w19, .ref g20, .int w21, .ref g22, .ref g23, .ref g24, .int w25, .int w26, .int w27, .ref g28, .ref g29, .int w30, .ref g31, .ref g32, .ref g33])), (g1, .inl (T 0, 282, .inl fa)), (g32, .inl (T 0, 4, .inl fm)), (g33, .inl (T 1, 160, .inr (.inl fn)))] ∧ k + 1 < mz ∧ nI 0 = whL n fa (fun i => fn (40 * r + i)) mz k) ∨ (∃ (z : Int32), rr = some (.int z) ∧ ww = [(o, .inr (8, [.int w0, .ref g1, .ref g2, .ref g3, .ref g4, .int (nI tp), .int w6, .int w7, .int w8, .int w9, .int w10, .int w11, .int w12, .int w13, .int w14, .ref g15, .int w16, .ref g17, .int w18, .int w19, .ref g20, .int w21, .ref g22, .ref g23, .ref g24, .int w25, .int w26, .int w27, .ref g28, .ref g29, .int w30, .ref g31, .ref g32, .ref g33])), (g1, .inl (T 0, 282, .inl fa)), (g32, .inl (T 0, 4, .inl fm)), (g33, .inl (T 1, 160, .inr (.inl fn)))] ∧ ¬ z = 0 ∧ z = whL n fa (fun i => fn (40 * r + i)) mz k)
set_option maxHeartbeats 4000000 in
set_option maxRecDepth 100000 in
theorem m_whyNot_f (l : Launch) (D : va_G) (T : Nat → ClassId) (mz : Nat) (n : Nat) (o : Nat) (r : Nat) (k : Nat) (w0 : Int32) (g1 : Nat) (g2 : Nat) (g3 : Nat) (g4 : Nat) (tp : Nat) (w6 : Int32) (w7 : Int32) (w8 : Int32) (w9 : Int32) (w10 : Int32) (w11 : Int32) (w12 : Int32) (w13 : Int32) (w14 : Int32) (g15 : Nat) (w16 : Int32) (g17 : Nat) (w18 : Int32) (w19 : Int32) (g20 : Nat) (w21 : Int32) (g22 : Nat) (g23 : Nat) (g24 : Nat) (w25 : Int32) (w26 : Int32) (w27 : Int32) (g28 : Nat) (g29 : Nat) (w30 : Int32) (g31 : Nat) (g32 : Nat) (g33 : Nat) (fa : Nat → Int32) (fm : Nat → Int32) (fn : Nat → Int64) (h_a : MI n fa) (h_r : r < 4) (h_mz : fm r = nI mz) (h_m4 : mz ≤ 40) (h_k : k < mz) : Ct l yX8_whyNot cX8_whyNot 7 (some .int) 2 0 0 D T [.ref o, .int (nI r), .int (nI k)] [(o, .inr (8, [.int w0, .ref g1, .ref g2, .ref g3, .ref g4, .int (nI tp), .int w6, .int w7, .int w8, .int w9, .int w10, .int w11, .int w12, .int w13, .int w14, .ref g15, .int w16, .ref g17, .int w18, .int w19, .ref g20, .int w21, .ref g22, .ref g23, .ref g24, .int w25, .int w26, .int w27, .ref g28, .ref g29, .int w30, .ref g31, .ref g32, .ref g33])), (g1, .inl (T 0, 282, .inl fa)), (g32, .inl (T 0, 4, .inl fm)), (g33, .inl (T 1, 160, .inr (.inl fn)))] (q_m_whyNot_f T mz n o r k w0 g1 g2 g3 g4 tp w6 w7 w8 w9 w10 w11 w12 w13 w14 g15 w16 g17 w18 w19 g20 w21 g22 g23 g24 w25 w26 w27 g28 g29 w30 g31 g32 g33 fa fm fn) := by
  refine Ct.of (cc := cX8_whyNot) (maxL := 7) (ret := (some .int)) (by decide) (Nat.le_of_ble_eq_true rfl) ?_
  intro p e s m args below meth c A ls hC hnm V hl
  obtain ⟨hx, hb, hr, hml, hown, hts, hlocks⟩ := id hC
  generalize hH : s.heap = H at V ⊢
  clear hH
  have hl : lv_has ls 7 [(0, .ref o), (1, .int (nI r)), (2, .int (nI k))] := hl
  generalize hlo : ([] : List Loc) = locs at V ⊢
  clear hlo
  have ms0 := ms_rf h_a
  have hn10 := h_a.1
  refine lv_aload_n hx hb dX8_whyNot_0 rfl (lv_at hl 0 rfl) ?_
  refine g_get hC V (ci := 8) uwX8 0 rfl rfl 33 (by decide) w_945 rfl rfl dX8_whyNot_1 ?_
  refine lv_bipush (v := (nI 40)) hx hb dX8_whyNot_4 (by decide +kernel) ?_
  refine lv_iload_n hx hb dX8_whyNot_6 rfl (lv_at hl 1 rfl) ?_
  refine lv_imul hx hb dX8_whyNot_7 ?_
  refine g_vi (y := (nI (40 * r))) (pk_mul _ _) ?_
  refine lv_iload_n hx hb dX8_whyNot_8 rfl (lv_at hl 2 rfl) ?_
  refine lv_iadd hx hb dX8_whyNot_9 ?_
  refine g_vi (y := (nI ((40 * r) + k))) (nI_add _ _) ?_
  refine g_lald hC V 3 rfl (vp_in_nI (by omega) (by omega)) (v := (fn ((40 * r) + k))) (congrArg _ (nI_clamp (by omega))) dX8_whyNot_10 ?_
  refine lv_lstore_n (lv' := [(3, .long (fn ((40 * r) + k))), (0, .ref o), (1, .int (nI r)), (2, .int (nI k))]) hx hb dX8_whyNot_11 rfl hl (by decide) rfl (fun ls hl => ?_)
  refine lv_aload_n hx hb dX8_whyNot_12 rfl (lv_at hl 1 rfl) ?_
  refine lv_lload_n hx hb dX8_whyNot_13 rfl (lv_at hl 0 rfl) ?_
  refine g_callVU (nA := 1) hC V hl.1 (m_isSetL_f l D T n o (fn ((40 * r) + k)) w0 g1 g2 g3 g4 tp w6 w7 w8 w9 w10 w11 w12 w13 w14 g15 w16 g17 w18 w19 g20 w21 g22 g23 g24 w25 w26 w27 g28 g29 w30 g31 g32 g33 fa h_a) w_1118 w_1120 w_s49 w_9 w_1121 (by decide +kernel) rfl ⟨(Nat.le_of_ble_eq_true rfl), (Nat.le_of_ble_eq_true rfl)⟩ 0 (ci := 8) rfl rfl [0, 1] rfl rfl (Nat.le_of_ble_eq_true rfl) dX8_whyNot_14 ⟨(Nat.le_of_ble_eq_true rfl), (Nat.le_of_ble_eq_true rfl)⟩ rfl (fun r w1 H locs hQ V => ?_)
  rcases hQ with ⟨rfl, rfl, f_1⟩ | ⟨rfl, rfl, f_2⟩
  · have V : gW D T A s [(o, .inr (8, [.int w0, .ref g1, .ref g2, .ref g3, .ref g4, .int (nI tp), .int w6, .int w7, .int w8, .int w9, .int w10, .int w11, .int w12, .int w13, .int w14, .ref g15, .int w16, .ref g17, .int w18, .int w19, .ref g20, .int w21, .ref g22, .ref g23, .ref g24, .int w25, .int w26, .int w27, .ref g28, .ref g29, .int w30, .ref g31, .ref g32, .ref g33])), (g1, .inl (T 0, 282, .inl fa)), (g32, .inl (T 0, 4, .inl fm)), (g33, .inl (T 1, 160, .inr (.inl fn)))] H locs := V _ [0, 0] rfl rfl rfl (by decide +kernel) rfl
    show W p l e _ s m args below meth c H locs _ _ _ (F0 m 17 ls [.int (nI 1)])
    refine lv_if_ne (tgt := 22) hx hb dX8_whyNot_17 (by decide) (fun _ => ?_) (fun c => absurd (show (nI 1) = 0 from c) (by decide +kernel))
    refine lv_iload_n hx hb dX8_whyNot_22 rfl (lv_at hl 3 rfl) ?_
    refine lv_iconst (v := (nI 1)) hx hb dX8_whyNot_23 (by decide +kernel) ?_
    refine lv_iadd hx hb dX8_whyNot_24 ?_
    refine g_vi (y := (nI (k + 1))) (nI_add _ _) ?_
    refine lv_aload_n hx hb dX8_whyNot_25 rfl (lv_at hl 1 rfl) ?_
    refine g_get hC V (ci := 8) uwX8 0 rfl rfl 32 (by decide) w_944 rfl rfl dX8_whyNot_26 ?_
    refine lv_iload_n hx hb dX8_whyNot_29 rfl (lv_at hl 2 rfl) ?_
    refine g_iald hC V 2 rfl (vp_in_nI (by omega) (by omega)) (v := (nI mz)) (by rw [nI_clamp (by omega)]; exact h_mz) dX8_whyNot_30 ?_
    refine lv_icmp_ne (tgt := 36) hx hb dX8_whyNot_31 (by decide) (fun c_3 => ?_) (fun c_3 => ?_)
    · skip
      have c_3 := b_ne (by omega) (by omega) c_3
      refine lv_aload_n hx hb dX8_whyNot_36 rfl (lv_at hl 1 rfl) ?_
      refine g_get hC V (ci := 8) uwX8 0 rfl rfl 33 (by decide) w_945 rfl rfl dX8_whyNot_37 ?_
      refine lv_bipush (v := (nI 40)) hx hb dX8_whyNot_40 (by decide +kernel) ?_
      refine lv_iload_n hx hb dX8_whyNot_42 rfl (lv_at hl 2 rfl) ?_
      refine lv_imul hx hb dX8_whyNot_43 ?_
      refine g_vi (y := (nI (40 * r))) (pk_mul _ _) ?_
      refine lv_iload_n hx hb dX8_whyNot_44 rfl (lv_at hl 3 rfl) ?_
      refine lv_iadd hx hb dX8_whyNot_45 ?_
      refine g_vi (y := (nI ((40 * r) + k))) (nI_add _ _) ?_
      refine lv_iconst (v := (nI 1)) hx hb dX8_whyNot_46 (by decide +kernel) ?_
      refine lv_iadd hx hb dX8_whyNot_47 ?_
      refine g_vi (y := (nI (((40 * r) + k) + 1))) (nI_add _ _) ?_
      refine g_lald hC V 3 rfl (vp_in_nI (by omega) (by omega)) (v := (fn (((40 * r) + k) + 1))) (congrArg _ (nI_clamp (by omega))) dX8_whyNot_48 ?_
      refine lv_lstore (lv' := [(5, .long (fn (((40 * r) + k) + 1))), (3, .long (fn ((40 * r) + k))), (0, .ref o), (1, .int (nI r)), (2, .int (nI k))]) hx hb dX8_whyNot_49 hl (by decide) rfl (fun ls hl => ?_)
      refine lv_aload_n hx hb dX8_whyNot_51 rfl (lv_at hl 2 rfl) ?_
      refine lv_lload hx hb dX8_whyNot_52 (lv_at hl 0 rfl) ?_
      refine g_callVU (nA := 1) hC V hl.1 (m_isSetL_f l D T n o (fn (((40 * r) + k) + 1)) w0 g1 g2 g3 g4 tp w6 w7 w8 w9 w10 w11 w12 w13 w14 g15 w16 g17 w18 w19 g20 w21 g22 g23 g24 w25 w26 w27 g28 g29 w30 g31 g32 g33 fa h_a) w_1118 w_1120 w_s49 w_9 w_1121 (by decide +kernel) rfl ⟨(Nat.le_of_ble_eq_true rfl), (Nat.le_of_ble_eq_true rfl)⟩ 0 (ci := 8) rfl rfl [0, 1] rfl rfl (Nat.le_of_ble_eq_true rfl) dX8_whyNot_54 ⟨(Nat.le_of_ble_eq_true rfl), (Nat.le_of_ble_eq_true rfl)⟩ rfl (fun r w1 H locs hQ V => ?_)
      rcases hQ with ⟨rfl, rfl, f_4⟩ | ⟨rfl, rfl, f_5⟩
      · have V : gW D T A s [(o, .inr (8, [.int w0, .ref g1, .ref g2, .ref g3, .ref g4, .int (nI tp), .int w6, .int w7, .int w8, .int w9, .int w10, .int w11, .int w12, .int w13, .int w14, .ref g15, .int w16, .ref g17, .int w18, .int w19, .ref g20, .int w21, .ref g22, .ref g23, .ref g24, .int w25, .int w26, .int w27, .ref g28, .ref g29, .int w30, .ref g31, .ref g32, .ref g33])), (g1, .inl (T 0, 282, .inl fa)), (g32, .inl (T 0, 4, .inl fm)), (g33, .inl (T 1, 160, .inr (.inl fn)))] H locs := V _ [0, 0] rfl rfl rfl (by decide +kernel) rfl
        show W p l e _ s m args below meth c H locs _ _ _ (F0 m 57 ls [.int (nI 1)])
        refine lv_if_ne (tgt := 62) hx hb dX8_whyNot_57 (by decide) (fun _ => ?_) (fun c => absurd (show (nI 1) = 0 from c) (by decide +kernel))
        refine lv_lload_n hx hb dX8_whyNot_62 rfl (lv_at hl 1 rfl) ?_
        refine lv_lload hx hb dX8_whyNot_63 (lv_at hl 0 rfl) ?_
        refine lv_land hx hb dX8_whyNot_65 ?_
        refine lv_lconst (v := (nI 0).toInt64) hx hb dX8_whyNot_66 (by decide +kernel) ?_
        refine W.lcmp hx hb dX8_whyNot_67 ?_
        refine lv_if_eq (tgt := 75) hx hb dX8_whyNot_68 (by decide) (fun c_6 => ?_) (fun c_6 => ?_)
        · skip
          refine lv_aload_n hx hb dX8_whyNot_75 rfl (lv_at hl 2 rfl) ?_
          refine g_get hC V (ci := 8) uwX8 0 rfl rfl 1 (by decide) w_913 rfl rfl dX8_whyNot_76 ?_
          refine lv_iconst (v := (nI 1)) hx hb dX8_whyNot_79 (by decide +kernel) ?_
          refine g_iald hC V 1 rfl (vp_in_nI (by decide) (by decide)) (v := (fa 1)) (congrArg _ (nI_clamp (by decide))) dX8_whyNot_80 ?_
          refine lv_sipush (v := (nI 9999)) hx hb dX8_whyNot_81 (by decide +kernel) ?_
          refine lv_icmp_ne (tgt := 91) hx hb dX8_whyNot_84 (by decide) (fun c_7 => ?_) (fun c_7 => ?_)
          · skip
            refine lv_iconst (v := (nI 0)) hx hb dX8_whyNot_91 (by decide +kernel) ?_
            exact g_iret (Qr := (q_m_whyNot_f T mz n o r k w0 g1 g2 g3 g4 tp w6 w7 w8 w9 w10 w11 w12 w13 w14 g15 w16 g17 w18 w19 g20 w21 g22 g23 g24 w25 w26 w27 g28 g29 w30 g31 g32 g33 fa fm fn)) hC V ⟨(Nat.le_of_ble_eq_true rfl), (Nat.le_of_ble_eq_true rfl)⟩ (.inl ⟨rfl, rfl, (by omega), (wl_0 (R := (fun i => fn (40 * r + i))) rfl f_1 (by omega) rfl f_4 ((lg_cmp_eq _ _).mp c_6) c_7)⟩) dX8_whyNot_92
          · skip
            refine lv_iconst (v := (nI 4)) hx hb dX8_whyNot_87 (by decide +kernel) ?_
            refine lv_goto (tgt := 92) hx hb dX8_whyNot_88 (by decide) ?_
            exact g_iret (Qr := (q_m_whyNot_f T mz n o r k w0 g1 g2 g3 g4 tp w6 w7 w8 w9 w10 w11 w12 w13 w14 g15 w16 g17 w18 w19 g20 w21 g22 g23 g24 w25 w26 w27 g28 g29 w30 g31 g32 g33 fa fm fn)) hC V ⟨(Nat.le_of_ble_eq_true rfl), (Nat.le_of_ble_eq_true rfl)⟩ (.inr ⟨(nI 4), rfl, rfl, (by decide +kernel), (wl_4 (R := (fun i => fn (40 * r + i))) rfl f_1 (by omega) rfl f_4 ((lg_cmp_eq _ _).mp c_6) c_7)⟩) dX8_whyNot_92
        · skip
          refine lv_iconst (v := (nI 2)) hx hb dX8_whyNot_71 (by decide +kernel) ?_
          refine lv_goto (tgt := 92) hx hb dX8_whyNot_72 (by decide) ?_
          exact g_iret (Qr := (q_m_whyNot_f T mz n o r k w0 g1 g2 g3 g4 tp w6 w7 w8 w9 w10 w11 w12 w13 w14 g15 w16 g17 w18 w19 g20 w21 g22 g23 g24 w25 w26 w27 g28 g29 w30 g31 g32 g33 fa fm fn)) hC V ⟨(Nat.le_of_ble_eq_true rfl), (Nat.le_of_ble_eq_true rfl)⟩ (.inr ⟨(nI 2), rfl, rfl, (by decide +kernel), (wl_2 (R := (fun i => fn (40 * r + i))) rfl f_1 (by omega) rfl f_4 (fun q => c_6 ((lg_cmp_eq _ _).mpr q)))⟩) dX8_whyNot_92
      · have V : gW D T A s [(o, .inr (8, [.int w0, .ref g1, .ref g2, .ref g3, .ref g4, .int (nI tp), .int w6, .int w7, .int w8, .int w9, .int w10, .int w11, .int w12, .int w13, .int w14, .ref g15, .int w16, .ref g17, .int w18, .int w19, .ref g20, .int w21, .ref g22, .ref g23, .ref g24, .int w25, .int w26, .int w27, .ref g28, .ref g29, .int w30, .ref g31, .ref g32, .ref g33])), (g1, .inl (T 0, 282, .inl fa)), (g32, .inl (T 0, 4, .inl fm)), (g33, .inl (T 1, 160, .inr (.inl fn)))] H locs := V _ [0, 0] rfl rfl rfl (by decide +kernel) rfl
        show W p l e _ s m args below meth c H locs _ _ _ (F0 m 57 ls [.int (nI 0)])
        refine lv_if_ne (tgt := 62) hx hb dX8_whyNot_57 (by decide) (fun c => absurd (show (nI 0) = 0 by decide +kernel) c) (fun _ => ?_)
        refine lv_iconst (v := (nI 1)) hx hb dX8_whyNot_60 (by decide +kernel) ?_
        exact g_iret (Qr := (q_m_whyNot_f T mz n o r k w0 g1 g2 g3 g4 tp w6 w7 w8 w9 w10 w11 w12 w13 w14 g15 w16 g17 w18 w19 g20 w21 g22 g23 g24 w25 w26 w27 g28 g29 w30 g31 g32 g33 fa fm fn)) hC V ⟨(Nat.le_of_ble_eq_true rfl), (Nat.le_of_ble_eq_true rfl)⟩ (.inr ⟨(nI 1), rfl, rfl, (by decide +kernel), (wl_1b (R := (fun i => fn (40 * r + i))) rfl f_1 (by omega) rfl f_5)⟩) dX8_whyNot_61
    · skip
      have c_3 := b_eq (by omega) (by omega) c_3
      refine lv_iconst (v := (nI 3)) hx hb dX8_whyNot_34 (by decide +kernel) ?_
      exact g_iret (Qr := (q_m_whyNot_f T mz n o r k w0 g1 g2 g3 g4 tp w6 w7 w8 w9 w10 w11 w12 w13 w14 g15 w16 g17 w18 w19 g20 w21 g22 g23 g24 w25 w26 w27 g28 g29 w30 g31 g32 g33 fa fm fn)) hC V ⟨(Nat.le_of_ble_eq_true rfl), (Nat.le_of_ble_eq_true rfl)⟩ (.inr ⟨(nI 3), rfl, rfl, (by decide +kernel), (wl_3 (R := (fun i => fn (40 * r + i))) rfl f_1 (by omega))⟩) dX8_whyNot_35
  · have V : gW D T A s [(o, .inr (8, [.int w0, .ref g1, .ref g2, .ref g3, .ref g4, .int (nI tp), .int w6, .int w7, .int w8, .int w9, .int w10, .int w11, .int w12, .int w13, .int w14, .ref g15, .int w16, .ref g17, .int w18, .int w19, .ref g20, .int w21, .ref g22, .ref g23, .ref g24, .int w25, .int w26, .int w27, .ref g28, .ref g29, .int w30, .ref g31, .ref g32, .ref g33])), (g1, .inl (T 0, 282, .inl fa)), (g32, .inl (T 0, 4, .inl fm)), (g33, .inl (T 1, 160, .inr (.inl fn)))] H locs := V _ [0, 0] rfl rfl rfl (by decide +kernel) rfl
    show W p l e _ s m args below meth c H locs _ _ _ (F0 m 17 ls [.int (nI 0)])
    refine lv_if_ne (tgt := 22) hx hb dX8_whyNot_17 (by decide) (fun c => absurd (show (nI 0) = 0 by decide +kernel) c) (fun _ => ?_)
    refine lv_iconst (v := (nI 1)) hx hb dX8_whyNot_20 (by decide +kernel) ?_
    exact g_iret (Qr := (q_m_whyNot_f T mz n o r k w0 g1 g2 g3 g4 tp w6 w7 w8 w9 w10 w11 w12 w13 w14 g15 w16 g17 w18 w19 g20 w21 g22 g23 g24 w25 w26 w27 g28 g29 w30 g31 g32 g33 fa fm fn)) hC V ⟨(Nat.le_of_ble_eq_true rfl), (Nat.le_of_ble_eq_true rfl)⟩ (.inr ⟨(nI 1), rfl, rfl, (by decide +kernel), (wl_1 (R := (fun i => fn (40 * r + i))) rfl f_2)⟩) dX8_whyNot_21

def q_m_minutesOf_f (T : Nat → ClassId) (mz : Nat) (n : Nat) (o : Nat) (r : Nat) (w0 : Int32) (g1 : Nat) (g2 : Nat) (g3 : Nat) (g4 : Nat) (tp : Nat) (w6 : Int32) (w7 : Int32) (w8 : Int32) (w9 : Int32) (w10 : Int32) (w11 : Int32) (w12 : Int32) (w13 : Int32) (w14 : Int32) (g15 : Nat) (w16 : Int32) (g17 : Nat) (w18 : Int32) (w19 : Int32) (g20 : Nat) (w21 : Int32) (g22 : Nat) (g23 : Nat) (g24 : Nat) (w25 : Int32) (w26 : Int32) (w27 : Int32) (g28 : Nat) (g29 : Nat) (w30 : Int32) (g31 : Nat) (g32 : Nat) (g33 : Nat) (fa : Nat → Int32) (fh : Nat → Int32) (fm : Nat → Int32) (fn : Nat → Int64) : Option Value → va_W → Prop := fun rr ww => (∃ (z : Int32) (bm : Int32) (b2 : Int32) (b3 : Int32) (ga : Nat → Int32) (gh : Nat → Int32), rr = some (.int z) ∧ ww = [(o, .inr (8, [.int w0, .ref g1, .ref g2, .ref g3, .ref g4, .int (nI tp), .int w6, .int w7, .int w8, .int w9, .int w10, .int w11, .int w12, .int w13, .int w14, .ref g15, .int bm, .ref g17, .int b2, .int b3, .ref g20, .int w21, .ref g22, .ref g23, .ref g24, .int w25, .int w26, .int w27, .ref g28, .ref g29, .int w30, .ref g31, .ref g32, .ref g33])), (g1, .inl (T 0, 282, .inl ga)), (g15, .inl (T 0, 10, .inl gh)), (g32, .inl (T 0, 4, .inl fm)), (g33, .inl (T 1, 160, .inr (.inl fn)))] ∧ MS n fa ga ∧ z = nI ((tlE n fa (fun i => fn (40 * r + i)) mz 42 0).1 / 2) ∧ ga = tlI n fa (fun i => fn (40 * r + i)) (tlE n fa (fun i => fn (40 * r + i)) mz 42 0).1 ∧ b2 = (tlE n fa (fun i => fn (40 * r + i)) mz 42 0).2 ∧ b3 = tlC n fa (fun i => fn (40 * r + i)) (tlE n fa (fun i => fn (40 * r + i)) mz 42 0).1 ∧ bm = tlB n fa (fun i => fn (40 * r + i)) (tlE n fa (fun i => fn (40 * r + i)) mz 42 0).1)
set_option maxHeartbeats 4000000 in
set_option maxRecDepth 100000 in
theorem m_minutesOf_f (l : Launch) (D : va_G) (T : Nat → ClassId) (mz : Nat) (n : Nat) (o : Nat) (r : Nat) (w0 : Int32) (g1 : Nat) (g2 : Nat) (g3 : Nat) (g4 : Nat) (tp : Nat) (w6 : Int32) (w7 : Int32) (w8 : Int32) (w9 : Int32) (w10 : Int32) (w11 : Int32) (w12 : Int32) (w13 : Int32) (w14 : Int32) (g15 : Nat) (w16 : Int32) (g17 : Nat) (w18 : Int32) (w19 : Int32) (g20 : Nat) (w21 : Int32) (g22 : Nat) (g23 : Nat) (g24 : Nat) (w25 : Int32) (w26 : Int32) (w27 : Int32) (g28 : Nat) (g29 : Nat) (w30 : Int32) (g31 : Nat) (g32 : Nat) (g33 : Nat) (fa : Nat → Int32) (fh : Nat → Int32) (fm : Nat → Int32) (fn : Nat → Int64) (h_a : MI n fa) (h_r : r < 4) (h_mz : fm r = nI mz) (h_m4 : mz ≤ 40) : Ct l yX8_minutesOf cX8_minutesOf 4 (some .int) 3 0 0 D T [.ref o, .int (nI r)] [(o, .inr (8, [.int w0, .ref g1, .ref g2, .ref g3, .ref g4, .int (nI tp), .int w6, .int w7, .int w8, .int w9, .int w10, .int w11, .int w12, .int w13, .int w14, .ref g15, .int w16, .ref g17, .int w18, .int w19, .ref g20, .int w21, .ref g22, .ref g23, .ref g24, .int w25, .int w26, .int w27, .ref g28, .ref g29, .int w30, .ref g31, .ref g32, .ref g33])), (g1, .inl (T 0, 282, .inl fa)), (g15, .inl (T 0, 10, .inl fh)), (g32, .inl (T 0, 4, .inl fm)), (g33, .inl (T 1, 160, .inr (.inl fn)))] (q_m_minutesOf_f T mz n o r w0 g1 g2 g3 g4 tp w6 w7 w8 w9 w10 w11 w12 w13 w14 g15 w16 g17 w18 w19 g20 w21 g22 g23 g24 w25 w26 w27 g28 g29 w30 g31 g32 g33 fa fh fm fn) := by
  refine Ct.of (cc := cX8_minutesOf) (maxL := 4) (ret := (some .int)) (by decide) (Nat.le_of_ble_eq_true rfl) ?_
  intro p e s m args below meth c A ls hC hnm V hl
  obtain ⟨hx, hb, hr, hml, hown, hts, hlocks⟩ := id hC
  generalize hH : s.heap = H at V ⊢
  clear hH
  have hl : lv_has ls 4 [(0, .ref o), (1, .int (nI r))] := hl
  generalize hlo : ([] : List Loc) = locs at V ⊢
  clear hlo
  have ms0 := ms_rf h_a
  have hn10 := h_a.1
  refine lv_aload_n hx hb dX8_minutesOf_0 rfl (lv_at hl 0 rfl) ?_
  refine lv_iconst (v := (nI 0)) hx hb dX8_minutesOf_1 (by decide +kernel) ?_
  refine g_put hC V (ci := 8) uwX8 tyX8 tyX8_ok nmX8 0 rfl rfl 19 (by decide) w_931 rfl rfl rfl rfl (Nat.le_of_ble_eq_true rfl) (ws' := [(o, .inr (8, [.int w0, .ref g1, .ref g2, .ref g3, .ref g4, .int (nI tp), .int w6, .int w7, .int w8, .int w9, .int w10, .int w11, .int w12, .int w13, .int w14, .ref g15, .int w16, .ref g17, .int w18, .int (nI 0), .ref g20, .int w21, .ref g22, .ref g23, .ref g24, .int w25, .int w26, .int w27, .ref g28, .ref g29, .int w30, .ref g31, .ref g32, .ref g33])), (g1, .inl (T 0, 282, .inl fa)), (g15, .inl (T 0, 10, .inl fh)), (g32, .inl (T 0, 4, .inl fm)), (g33, .inl (T 1, 160, .inr (.inl fn)))]) rfl dX8_minutesOf_2 (fun H locs V => ?_)
  refine lv_aload_n hx hb dX8_minutesOf_5 rfl (lv_at hl 0 rfl) ?_
  refine lv_iconst (v := (nI 0)) hx hb dX8_minutesOf_6 (by decide +kernel) ?_
  refine g_put hC V (ci := 8) uwX8 tyX8 tyX8_ok nmX8 0 rfl rfl 16 (by decide) w_928 rfl rfl rfl rfl (Nat.le_of_ble_eq_true rfl) (ws' := [(o, .inr (8, [.int w0, .ref g1, .ref g2, .ref g3, .ref g4, .int (nI tp), .int w6, .int w7, .int w8, .int w9, .int w10, .int w11, .int w12, .int w13, .int w14, .ref g15, .int (nI 0), .ref g17, .int w18, .int (nI 0), .ref g20, .int w21, .ref g22, .ref g23, .ref g24, .int w25, .int w26, .int w27, .ref g28, .ref g29, .int w30, .ref g31, .ref g32, .ref g33])), (g1, .inl (T 0, 282, .inl fa)), (g15, .inl (T 0, 10, .inl fh)), (g32, .inl (T 0, 4, .inl fm)), (g33, .inl (T 1, 160, .inr (.inl fn)))]) rfl dX8_minutesOf_7 (fun H locs V => ?_)
  refine lv_aload_n hx hb dX8_minutesOf_10 rfl (lv_at hl 0 rfl) ?_
  refine lv_iconst (v := (nI 0)) hx hb dX8_minutesOf_11 (by decide +kernel) ?_
  refine g_put hC V (ci := 8) uwX8 tyX8 tyX8_ok nmX8 0 rfl rfl 18 (by decide) w_930 rfl rfl rfl rfl (Nat.le_of_ble_eq_true rfl) (ws' := [(o, .inr (8, [.int w0, .ref g1, .ref g2, .ref g3, .ref g4, .int (nI tp), .int w6, .int w7, .int w8, .int w9, .int w10, .int w11, .int w12, .int w13, .int w14, .ref g15, .int (nI 0), .ref g17, .int (nI 0), .int (nI 0), .ref g20, .int w21, .ref g22, .ref g23, .ref g24, .int w25, .int w26, .int w27, .ref g28, .ref g29, .int w30, .ref g31, .ref g32, .ref g33])), (g1, .inl (T 0, 282, .inl fa)), (g15, .inl (T 0, 10, .inl fh)), (g32, .inl (T 0, 4, .inl fm)), (g33, .inl (T 1, 160, .inr (.inl fn)))]) rfl dX8_minutesOf_12 (fun H locs V => ?_)
  refine lv_iconst (v := (nI 0)) hx hb dX8_minutesOf_15 (by decide +kernel) ?_
  refine lv_istore_n (lv' := [(2, .int (nI 0)), (0, .ref o), (1, .int (nI r))]) hx hb dX8_minutesOf_16 rfl hl (by decide) rfl (fun ls hl => ?_)
  refine lv_iconst (v := (nI 0)) hx hb dX8_minutesOf_17 (by decide +kernel) ?_
  refine lv_istore_n (lv' := [(3, .int (nI 0)), (2, .int (nI 0)), (0, .ref o), (1, .int (nI r))]) hx hb dX8_minutesOf_18 rfl hl (by decide) rfl (fun ls hl => ?_)
  have L_1 : ∀ (fu : Nat) (k19 : Nat) (x2 : Int32) (v1 : Int32) (v2 : Int32) (v3 : Int32) (th : Nat → Int32) (f19 : Nat → Int32), k19 ≤ mz + 1 → MS n fa f19 → f19 = tlI n fa (fun i => fn (40 * r + i)) k19 → x2 = nI (k19 / 2) → v1 = tlB n fa (fun i => fn (40 * r + i)) k19 → v2 = nI 0 → v3 = tlC n fa (fun i => fn (40 * r + i)) k19 → tlE n fa (fun i => fn (40 * r + i)) mz 42 0 = tlE n fa (fun i => fn (40 * r + i)) mz (42 - k19) k19 → mz + 1 - k19 < fu → ∀ (H : Heap) (locs : List Loc) (ls : Array Slot), gW D T A s [(o, .inr (8, [.int w0, .ref g1, .ref g2, .ref g3, .ref g4, .int (nI tp), .int w6, .int w7, .int w8, .int w9, .int w10, .int w11, .int w12, .int w13, .int w14, .ref g15, .int v1, .ref g17, .int v2, .int v3, .ref g20, .int w21, .ref g22, .ref g23, .ref g24, .int w25, .int w26, .int w27, .ref g28, .ref g29, .int w30, .ref g31, .ref g32, .ref g33])), (g1, .inl (T 0, 282, .inl f19)), (g15, .inl (T 0, 10, .inl th)), (g32, .inl (T 0, 4, .inl fm)), (g33, .inl (T 1, 160, .inr (.inl fn)))] H locs → lv_has ls 4 [(3, .int (nI k19)), (2, .int x2), (0, .ref o), (1, .int (nI r))] → W p l e (rmD 3 0 0) s m args below meth c H locs 0 0 (MQ below (gQ D A (q_m_minutesOf_f T mz n o r w0 g1 g2 g3 g4 tp w6 w7 w8 w9 w10 w11 w12 w13 w14 g15 w16 g17 w18 w19 g20 w21 g22 g23 g24 w25 w26 w27 g28 g29 w30 g31 g32 g33 fa fh fm fn)) args s 0 0 A) (F0 m 19 ls []) := by
    intro fu_19
    induction fu_19 with
    | zero => intro k19 x2 v1 v2 v3 th f19 hk19 hf19 hI hx2 hv1 hv2 hv3 hE hmu; exact absurd hmu (Nat.not_lt_zero _)
    | succ fu_19 ih_19 =>
      intro k19 x2 v1 v2 v3 th f19 hk19 hf19 hI hx2 hv1 hv2 hv3 hE hmu_19 H locs ls V hl
      refine lv_iload_n hx hb dX8_minutesOf_19 rfl (lv_at hl 0 rfl) ?_
      refine lv_aload_n hx hb dX8_minutesOf_20 rfl (lv_at hl 2 rfl) ?_
      refine g_get hC V (ci := 8) uwX8 0 rfl rfl 32 (by decide) w_944 rfl rfl dX8_minutesOf_21 ?_
      refine lv_iload_n hx hb dX8_minutesOf_24 rfl (lv_at hl 3 rfl) ?_
      refine g_iald hC V 3 rfl (vp_in_nI (by omega) (by omega)) (v := (nI mz)) (by rw [nI_clamp (by omega)]; exact h_mz) dX8_minutesOf_25 ?_
      refine lv_icmp_ge (tgt := 98) hx hb dX8_minutesOf_26 (by decide) (fun c_2 => ?_) (fun c_2 => ?_)
      · skip
        have c_2 := b_le (by omega) (by omega) c_2
        refine lv_iload_n hx hb dX8_minutesOf_98 rfl (lv_at hl 1 rfl) ?_
        exact g_iret (Qr := (q_m_minutesOf_f T mz n o r w0 g1 g2 g3 g4 tp w6 w7 w8 w9 w10 w11 w12 w13 w14 g15 w16 g17 w18 w19 g20 w21 g22 g23 g24 w25 w26 w27 g28 g29 w30 g31 g32 g33 fa fh fm fn)) hC V ⟨(Nat.le_of_ble_eq_true rfl), (Nat.le_of_ble_eq_true rfl)⟩ ⟨x2, v1, v2, v3, f19, th, rfl, rfl, (by assumption), (hx2.trans (congrArg (fun q : Nat × Int32 => nI (q.1 / 2)) (hE.trans (te_e (by omega)))).symm), (hI.trans (congrArg (fun q : Nat × Int32 => tlI n fa (fun i => fn (40 * r + i)) q.1) (hE.trans (te_e (by omega)))).symm), (hv2.trans (congrArg Prod.snd (hE.trans (te_e (by omega)))).symm), (hv3.trans (congrArg (fun q : Nat × Int32 => tlC n fa (fun i => fn (40 * r + i)) q.1) (hE.trans (te_e (by omega)))).symm), (hv1.trans (congrArg (fun q : Nat × Int32 => tlB n fa (fun i => fn (40 * r + i)) q.1) (hE.trans (te_e (by omega)))).symm)⟩ dX8_minutesOf_99
      · skip
        have c_2 := b_nle (by omega) (by omega) c_2
        refine lv_aload_n hx hb dX8_minutesOf_29 rfl (lv_at hl 2 rfl) ?_
        refine lv_aload_n hx hb dX8_minutesOf_30 rfl (lv_at hl 2 rfl) ?_
        refine lv_iload_n hx hb dX8_minutesOf_31 rfl (lv_at hl 3 rfl) ?_
        refine lv_iload_n hx hb dX8_minutesOf_32 rfl (lv_at hl 0 rfl) ?_
        refine g_callVU (nA := 2) hC V hl.1 (m_whyNot_f l D T mz n o r k19 w0 g1 g2 g3 g4 tp w6 w7 w8 w9 w10 w11 w12 w13 w14 g15 v1 g17 v2 v3 g20 w21 g22 g23 g24 w25 w26 w27 g28 g29 w30 g31 g32 g33 f19 fm fn hf19.1 (by first | assumption | omega) (by first | assumption | omega) (by first | assumption | omega) (by first | assumption | omega)) w_1154 w_1156 w_s55 w_9 w_1157 (by decide +kernel) rfl ⟨(Nat.le_of_ble_eq_true rfl), (Nat.le_of_ble_eq_true rfl)⟩ 0 (ci := 8) rfl rfl [0, 1, 3, 4] rfl rfl (Nat.le_of_ble_eq_true rfl) dX8_minutesOf_33 ⟨(Nat.le_of_ble_eq_true rfl), (Nat.le_of_ble_eq_true rfl)⟩ rfl (fun r w1 H locs hQ V => ?_)
        rcases hQ with ⟨rfl, rfl, f_3, f_4⟩ | ⟨z_5, rfl, rfl, f_6, f_7⟩
        · have V : gW D T A s [(o, .inr (8, [.int w0, .ref g1, .ref g2, .ref g3, .ref g4, .int (nI tp), .int w6, .int w7, .int w8, .int w9, .int w10, .int w11, .int w12, .int w13, .int w14, .ref g15, .int v1, .ref g17, .int v2, .int v3, .ref g20, .int w21, .ref g22, .ref g23, .ref g24, .int w25, .int w26, .int w27, .ref g28, .ref g29, .int w30, .ref g31, .ref g32, .ref g33])), (g1, .inl (T 0, 282, .inl f19)), (g15, .inl (T 0, 10, .inl th)), (g32, .inl (T 0, 4, .inl fm)), (g33, .inl (T 1, 160, .inr (.inl fn)))] H locs := V _ [0, 0, 1, 0] rfl rfl rfl (by decide +kernel) rfl
          show W p l e _ s m args below meth c H locs _ _ _ (F0 m 36 ls [.int (nI 0), .ref o])
          have hw0 : nI 0 = whL n (tlI n fa (fun i => fn (40 * r + i)) k19) (fun i => fn (40 * r + i)) mz k19 := by rw [← hI]; exact f_4
          refine g_put hC V (ci := 8) uwX8 tyX8 tyX8_ok nmX8 0 rfl rfl 18 (by decide) w_930 rfl rfl rfl rfl (Nat.le_of_ble_eq_true rfl) (ws' := [(o, .inr (8, [.int w0, .ref g1, .ref g2, .ref g3, .ref g4, .int (nI tp), .int w6, .int w7, .int w8, .int w9, .int w10, .int w11, .int w12, .int w13, .int w14, .ref g15, .int v1, .ref g17, .int (nI 0), .int v3, .ref g20, .int w21, .ref g22, .ref g23, .ref g24, .int w25, .int w26, .int w27, .ref g28, .ref g29, .int w30, .ref g31, .ref g32, .ref g33])), (g1, .inl (T 0, 282, .inl f19)), (g15, .inl (T 0, 10, .inl th)), (g32, .inl (T 0, 4, .inl fm)), (g33, .inl (T 1, 160, .inr (.inl fn)))]) rfl dX8_minutesOf_36 (fun H locs V => ?_)
          refine lv_aload_n hx hb dX8_minutesOf_39 rfl (lv_at hl 2 rfl) ?_
          refine g_get hC V (ci := 8) uwX8 0 rfl rfl 18 (by decide) w_930 rfl rfl dX8_minutesOf_40 ?_
          refine lv_if_eq (tgt := 48) hx hb dX8_minutesOf_43 (by decide) (fun _ => ?_) (fun c => absurd (show (nI 0) = 0 by decide +kernel) c)
          refine lv_aload_n hx hb dX8_minutesOf_48 rfl (lv_at hl 2 rfl) ?_
          refine lv_dup hx hb dX8_minutesOf_49 rfl ?_
          refine g_get hC V (ci := 8) uwX8 0 rfl rfl 19 (by decide) w_931 rfl rfl dX8_minutesOf_50 ?_
          refine lv_aload_n hx hb dX8_minutesOf_53 rfl (lv_at hl 2 rfl) ?_
          refine lv_aload_n hx hb dX8_minutesOf_54 rfl (lv_at hl 2 rfl) ?_
          refine g_get hC V (ci := 8) uwX8 0 rfl rfl 33 (by decide) w_945 rfl rfl dX8_minutesOf_55 ?_
          refine lv_bipush (v := (nI 40)) hx hb dX8_minutesOf_58 (by decide +kernel) ?_
          refine lv_iload_n hx hb dX8_minutesOf_60 rfl (lv_at hl 3 rfl) ?_
          refine lv_imul hx hb dX8_minutesOf_61 ?_
          refine g_vi (y := (nI (40 * r))) (pk_mul _ _) ?_
          refine lv_iload_n hx hb dX8_minutesOf_62 rfl (lv_at hl 0 rfl) ?_
          refine lv_iadd hx hb dX8_minutesOf_63 ?_
          refine g_vi (y := (nI ((40 * r) + k19))) (nI_add _ _) ?_
          refine g_lald hC V 4 rfl (vp_in_nI (by omega) (by omega)) (v := (fn ((40 * r) + k19))) (congrArg _ (nI_clamp (by omega))) dX8_minutesOf_64 ?_
          refine lv_l2i hx hb dX8_minutesOf_65 rfl ?_
          refine lv_aload_n hx hb dX8_minutesOf_66 rfl (lv_at hl 2 rfl) ?_
          refine g_get hC V (ci := 8) uwX8 0 rfl rfl 33 (by decide) w_945 rfl rfl dX8_minutesOf_67 ?_
          refine lv_bipush (v := (nI 40)) hx hb dX8_minutesOf_70 (by decide +kernel) ?_
          refine lv_iload_n hx hb dX8_minutesOf_72 rfl (lv_at hl 3 rfl) ?_
          refine lv_imul hx hb dX8_minutesOf_73 ?_
          refine g_vi (y := (nI (40 * r))) (pk_mul _ _) ?_
          refine lv_iload_n hx hb dX8_minutesOf_74 rfl (lv_at hl 0 rfl) ?_
          refine lv_iadd hx hb dX8_minutesOf_75 ?_
          refine g_vi (y := (nI ((40 * r) + k19))) (nI_add _ _) ?_
          refine lv_iconst (v := (nI 1)) hx hb dX8_minutesOf_76 (by decide +kernel) ?_
          refine lv_iadd hx hb dX8_minutesOf_77 ?_
          refine g_vi (y := (nI (((40 * r) + k19) + 1))) (nI_add _ _) ?_
          refine g_lald hC V 4 rfl (vp_in_nI (by omega) (by omega)) (v := (fn (((40 * r) + k19) + 1))) (congrArg _ (nI_clamp (by omega))) dX8_minutesOf_78 ?_
          refine lv_l2i hx hb dX8_minutesOf_79 rfl ?_
          refine lv_iconst (v := (-1)) hx hb dX8_minutesOf_80 (by decide +kernel) ?_
          refine lv_iconst (v := (nI 0)) hx hb dX8_minutesOf_81 (by decide +kernel) ?_
          refine g_callVU (nA := 4) hC V hl.1 (m_goes_f l D T n o ((fn ((40 * r) + k19)).toInt32) ((fn (((40 * r) + k19) + 1)).toInt32) (-1) (nI 0) w0 g1 g2 g3 g4 tp w6 w7 w8 w9 w10 w11 w12 w13 w14 g15 v1 g17 (nI 0) v3 g20 w21 g22 g23 g24 w25 w26 w27 g28 g29 w30 g31 g32 g33 f19 th hf19.1) w_1122 w_1124 w_s50 w_9 w_1125 (by decide +kernel) rfl ⟨(Nat.le_of_ble_eq_true rfl), (Nat.le_of_ble_eq_true rfl)⟩ 0 (ci := 8) rfl rfl [0, 1, 2] rfl rfl (Nat.le_of_ble_eq_true rfl) dX8_minutesOf_82 ⟨(Nat.le_of_ble_eq_true rfl), (Nat.le_of_ble_eq_true rfl)⟩ rfl (fun r w1 H locs hQ V => ?_)
          obtain ⟨z_8, bm_9, ga_10, gh_11, rfl, rfl, f_12, f_13, f_14, f_15⟩ := hQ
          have V : gW D T A s [(o, .inr (8, [.int w0, .ref g1, .ref g2, .ref g3, .ref g4, .int (nI tp), .int w6, .int w7, .int w8, .int w9, .int w10, .int w11, .int w12, .int w13, .int w14, .ref g15, .int bm_9, .ref g17, .int (nI 0), .int v3, .ref g20, .int w21, .ref g22, .ref g23, .ref g24, .int w25, .int w26, .int w27, .ref g28, .ref g29, .int w30, .ref g31, .ref g32, .ref g33])), (g1, .inl (T 0, 282, .inl ga_10)), (g15, .inl (T 0, 10, .inl gh_11)), (g32, .inl (T 0, 4, .inl fm)), (g33, .inl (T 1, 160, .inr (.inl fn)))] H locs := V _ [0, 0, 0] rfl rfl rfl (by decide +kernel) rfl
          show W p l e _ s m args below meth c H locs _ _ _ (F0 m 85 ls [.int z_8, .int v3, .ref o])
          have hga_10 : MS n fa ga_10 := ms_tr (by assumption) f_12
          refine lv_iadd hx hb dX8_minutesOf_85 ?_
          refine g_put hC V (ci := 8) uwX8 tyX8 tyX8_ok nmX8 0 rfl rfl 19 (by decide) w_931 rfl rfl rfl rfl (Nat.le_of_ble_eq_true rfl) (ws' := [(o, .inr (8, [.int w0, .ref g1, .ref g2, .ref g3, .ref g4, .int (nI tp), .int w6, .int w7, .int w8, .int w9, .int w10, .int w11, .int w12, .int w13, .int w14, .ref g15, .int bm_9, .ref g17, .int (nI 0), .int (v3 + z_8), .ref g20, .int w21, .ref g22, .ref g23, .ref g24, .int w25, .int w26, .int w27, .ref g28, .ref g29, .int w30, .ref g31, .ref g32, .ref g33])), (g1, .inl (T 0, 282, .inl ga_10)), (g15, .inl (T 0, 10, .inl gh_11)), (g32, .inl (T 0, 4, .inl fm)), (g33, .inl (T 1, 160, .inr (.inl fn)))]) rfl dX8_minutesOf_86 (fun H locs V => ?_)
          refine lv_iinc (v := (x2 + 1)) (lv' := [(2, .int (x2 + 1)), (3, .int (nI k19)), (0, .ref o), (1, .int (nI r))]) hx hb dX8_minutesOf_89 hl (k := 1) rfl rfl (by decide) rfl (fun ls hl => ?_)
          refine lv_iinc (v := (nI (k19 + 2))) (lv' := [(3, .int (nI (k19 + 2))), (2, .int (x2 + 1)), (0, .ref o), (1, .int (nI r))]) hx hb dX8_minutesOf_92 hl (k := 1) rfl (nI_add _ 2) (by decide) rfl (fun ls hl => ?_)
          refine lv_goto (tgt := 19) hx hb dX8_minutesOf_95 (by decide) ?_
          exact ih_19 (k19 + 2) (x2 + 1) bm_9 (nI 0) (v3 + z_8) gh_11 ga_10 (by omega) (by assumption) (by rw [f_14, hI]; rfl) (by rw [hx2]; exact (nI_add _ 1).trans (congrArg nI (by omega))) (by rw [f_15, hv1, hI]; rfl) rfl (by rw [hv3, f_13, hI]; rfl) (hE.trans (te_s (by omega) h_m4 hw0)) (by omega) _ _ _ V (lv_sub hl [0, 1, 2, 3] rfl)
        · have V : gW D T A s [(o, .inr (8, [.int w0, .ref g1, .ref g2, .ref g3, .ref g4, .int (nI tp), .int w6, .int w7, .int w8, .int w9, .int w10, .int w11, .int w12, .int w13, .int w14, .ref g15, .int v1, .ref g17, .int v2, .int v3, .ref g20, .int w21, .ref g22, .ref g23, .ref g24, .int w25, .int w26, .int w27, .ref g28, .ref g29, .int w30, .ref g31, .ref g32, .ref g33])), (g1, .inl (T 0, 282, .inl f19)), (g15, .inl (T 0, 10, .inl th)), (g32, .inl (T 0, 4, .inl fm)), (g33, .inl (T 1, 160, .inr (.inl fn)))] H locs := V _ [0, 0, 1, 0] rfl rfl rfl (by decide +kernel) rfl
          show W p l e _ s m args below meth c H locs _ _ _ (F0 m 36 ls [.int z_5, .ref o])
          have hw1 : z_5 = whL n (tlI n fa (fun i => fn (40 * r + i)) k19) (fun i => fn (40 * r + i)) mz k19 := by rw [← hI]; exact f_7
          have hw2 := f_6
          refine g_put hC V (ci := 8) uwX8 tyX8 tyX8_ok nmX8 0 rfl rfl 18 (by decide) w_930 rfl rfl rfl rfl (Nat.le_of_ble_eq_true rfl) (ws' := [(o, .inr (8, [.int w0, .ref g1, .ref g2, .ref g3, .ref g4, .int (nI tp), .int w6, .int w7, .int w8, .int w9, .int w10, .int w11, .int w12, .int w13, .int w14, .ref g15, .int v1, .ref g17, .int z_5, .int v3, .ref g20, .int w21, .ref g22, .ref g23, .ref g24, .int w25, .int w26, .int w27, .ref g28, .ref g29, .int w30, .ref g31, .ref g32, .ref g33])), (g1, .inl (T 0, 282, .inl f19)), (g15, .inl (T 0, 10, .inl th)), (g32, .inl (T 0, 4, .inl fm)), (g33, .inl (T 1, 160, .inr (.inl fn)))]) rfl dX8_minutesOf_36 (fun H locs V => ?_)
          refine lv_aload_n hx hb dX8_minutesOf_39 rfl (lv_at hl 2 rfl) ?_
          refine g_get hC V (ci := 8) uwX8 0 rfl rfl 18 (by decide) w_930 rfl rfl dX8_minutesOf_40 ?_
          refine lv_if_eq (tgt := 48) hx hb dX8_minutesOf_43 (by decide) (fun c_16 => ?_) (fun c_16 => ?_)
          · skip
            exact (absurd c_16 (by assumption) : False).elim
          · skip
            refine lv_iload_n hx hb dX8_minutesOf_46 rfl (lv_at hl 1 rfl) ?_
            exact g_iret (Qr := (q_m_minutesOf_f T mz n o r w0 g1 g2 g3 g4 tp w6 w7 w8 w9 w10 w11 w12 w13 w14 g15 w16 g17 w18 w19 g20 w21 g22 g23 g24 w25 w26 w27 g28 g29 w30 g31 g32 g33 fa fh fm fn)) hC V ⟨(Nat.le_of_ble_eq_true rfl), (Nat.le_of_ble_eq_true rfl)⟩ ⟨x2, v1, z_5, v3, f19, th, rfl, rfl, (by assumption), (hx2.trans (congrArg (fun q : Nat × Int32 => nI (q.1 / 2)) (hE.trans (te_w (by omega) h_m4 hw1 hw2))).symm), (hI.trans (congrArg (fun q : Nat × Int32 => tlI n fa (fun i => fn (40 * r + i)) q.1) (hE.trans (te_w (by omega) h_m4 hw1 hw2))).symm), (congrArg Prod.snd (hE.trans (te_w (by omega) h_m4 hw1 hw2))).symm, (hv3.trans (congrArg (fun q : Nat × Int32 => tlC n fa (fun i => fn (40 * r + i)) q.1) (hE.trans (te_w (by omega) h_m4 hw1 hw2))).symm), (hv1.trans (congrArg (fun q : Nat × Int32 => tlB n fa (fun i => fn (40 * r + i)) q.1) (hE.trans (te_w (by omega) h_m4 hw1 hw2))).symm)⟩ dX8_minutesOf_47
  exact L_1 _ 0 (nI 0) (nI 0) (nI 0) (nI 0) fh fa (by omega) (by assumption) rfl rfl rfl rfl rfl rfl (Nat.lt_succ_self _) _ _ _ V (lv_sub hl [0, 1, 2, 3] rfl)

def q_m_perform_f (T : Nat → ClassId) (n : Nat) (o : Nat) (row : Int32) (w0 : Int32) (g1 : Nat) (g2 : Nat) (g3 : Nat) (g4 : Nat) (tp : Nat) (w6 : Int32) (w7 : Int32) (w8 : Int32) (w9 : Int32) (w10 : Int32) (w11 : Int32) (w12 : Int32) (w13 : Int32) (w14 : Int32) (g15 : Nat) (w16 : Int32) (g17 : Nat) (w18 : Int32) (w19 : Int32) (g20 : Nat) (w21 : Int32) (g22 : Nat) (g23 : Nat) (g24 : Nat) (w25 : Int32) (w26 : Int32) (w27 : Int32) (g28 : Nat) (g29 : Nat) (w30 : Int32) (g31 : Nat) (g32 : Nat) (g33 : Nat) (fa : Nat → Int32) (fh : Nat → Int32) (fq : Nat → Int32) (fm : Nat → Int32) (fn : Nat → Int64) : Option Value → va_W → Prop := fun rr ww => (∃ (z : Int32) (bm : Int32) (b2 : Int32) (b3 : Int32) (ga : Nat → Int32) (gh : Nat → Int32), rr = some (.int z) ∧ ww = [(o, .inr (8, [.int (nI 0), .ref g1, .ref g2, .ref g3, .ref g4, .int (nI tp), .int w6, .int w7, .int w8, .int w9, .int w10, .int w11, .int w12, .int w13, .int w14, .ref g15, .int bm, .ref g17, .int b2, .int b3, .ref g20, .int w21, .ref g22, .ref g23, .ref g24, .int w25, .int w26, .int w27, .ref g28, .ref g29, .int w30, .ref g31, .ref g32, .ref g33])), (g1, .inl (T 0, 282, .inl ga)), (g15, .inl (T 0, 10, .inl gh)), (g31, .inl (T 0, 4, .inl fq)), (g32, .inl (T 0, 4, .inl fm)), (g33, .inl (T 1, 160, .inr (.inl fn)))] ∧ MS n fa ga ∧ z = perA n fa fq fm fn row ∧ ga = perF n fa fq fm fn row)
set_option maxHeartbeats 4000000 in
set_option maxRecDepth 100000 in
theorem m_perform_f (l : Launch) (D : va_G) (T : Nat → ClassId) (n : Nat) (o : Nat) (row : Int32) (w0 : Int32) (g1 : Nat) (g2 : Nat) (g3 : Nat) (g4 : Nat) (tp : Nat) (w6 : Int32) (w7 : Int32) (w8 : Int32) (w9 : Int32) (w10 : Int32) (w11 : Int32) (w12 : Int32) (w13 : Int32) (w14 : Int32) (g15 : Nat) (w16 : Int32) (g17 : Nat) (w18 : Int32) (w19 : Int32) (g20 : Nat) (w21 : Int32) (g22 : Nat) (g23 : Nat) (g24 : Nat) (w25 : Int32) (w26 : Int32) (w27 : Int32) (g28 : Nat) (g29 : Nat) (w30 : Int32) (g31 : Nat) (g32 : Nat) (g33 : Nat) (fa : Nat → Int32) (fh : Nat → Int32) (fq : Nat → Int32) (fm : Nat → Int32) (fn : Nat → Int64) (h_a : MI n fa) (h_rm : ∀ i, i < 4 → bd (fm i) 41) : Ct l yX8_perform cX8_perform 2 (some .int) 4 0 0 D T [.ref o, .int row] [(o, .inr (8, [.int w0, .ref g1, .ref g2, .ref g3, .ref g4, .int (nI tp), .int w6, .int w7, .int w8, .int w9, .int w10, .int w11, .int w12, .int w13, .int w14, .ref g15, .int w16, .ref g17, .int w18, .int w19, .ref g20, .int w21, .ref g22, .ref g23, .ref g24, .int w25, .int w26, .int w27, .ref g28, .ref g29, .int w30, .ref g31, .ref g32, .ref g33])), (g1, .inl (T 0, 282, .inl fa)), (g15, .inl (T 0, 10, .inl fh)), (g31, .inl (T 0, 4, .inl fq)), (g32, .inl (T 0, 4, .inl fm)), (g33, .inl (T 1, 160, .inr (.inl fn)))] (q_m_perform_f T n o row w0 g1 g2 g3 g4 tp w6 w7 w8 w9 w10 w11 w12 w13 w14 g15 w16 g17 w18 w19 g20 w21 g22 g23 g24 w25 w26 w27 g28 g29 w30 g31 g32 g33 fa fh fq fm fn) := by
  refine Ct.of (cc := cX8_perform) (maxL := 2) (ret := (some .int)) (by decide) (Nat.le_of_ble_eq_true rfl) ?_
  intro p e s m args below meth c A ls hC hnm V hl
  obtain ⟨hx, hb, hr, hml, hown, hts, hlocks⟩ := id hC
  generalize hH : s.heap = H at V ⊢
  clear hH
  have hl : lv_has ls 2 [(0, .ref o), (1, .int row)] := hl
  generalize hlo : ([] : List Loc) = locs at V ⊢
  clear hlo
  have ms0 := ms_rf h_a
  have hn10 := h_a.1
  refine lv_aload_n hx hb dX8_perform_0 rfl (lv_at hl 0 rfl) ?_
  refine lv_iconst (v := (nI 0)) hx hb dX8_perform_1 (by decide +kernel) ?_
  refine g_put hC V (ci := 8) uwX8 tyX8 tyX8_ok nmX8 0 rfl rfl 0 (by decide) w_912 rfl rfl rfl rfl (Nat.le_of_ble_eq_true rfl) (ws' := [(o, .inr (8, [.int (nI 0), .ref g1, .ref g2, .ref g3, .ref g4, .int (nI tp), .int w6, .int w7, .int w8, .int w9, .int w10, .int w11, .int w12, .int w13, .int w14, .ref g15, .int w16, .ref g17, .int w18, .int w19, .ref g20, .int w21, .ref g22, .ref g23, .ref g24, .int w25, .int w26, .int w27, .ref g28, .ref g29, .int w30, .ref g31, .ref g32, .ref g33])), (g1, .inl (T 0, 282, .inl fa)), (g15, .inl (T 0, 10, .inl fh)), (g31, .inl (T 0, 4, .inl fq)), (g32, .inl (T 0, 4, .inl fm)), (g33, .inl (T 1, 160, .inr (.inl fn)))]) rfl dX8_perform_2 (fun H locs V => ?_)
  refine lv_iload_n hx hb dX8_perform_5 rfl (lv_at hl 1 rfl) ?_
  refine lv_i2l (v := row.toInt64) hx hb dX8_perform_6 rfl ?_
  refine lv_lconst (v := (nI 0).toInt64) hx hb dX8_perform_7 (by decide +kernel) ?_
  refine lv_ldc2 (v := (3)) hx hb hown (hts _ w_1144) dX8_perform_8 ?_
  refine g_vl (y := (nI 3).toInt64) (by decide +kernel) ?_
  refine g_callSU (nA := 3) hC V hl.1 (m_within l D T row (nI 0) (nI 3)) w_1023 w_1024 w_9 w_1025 (by decide +kernel) rfl ⟨(Nat.le_of_ble_eq_true rfl), (Nat.le_of_ble_eq_true rfl)⟩ [] rfl rfl (Nat.le_of_ble_eq_true rfl) dX8_perform_11 ⟨(Nat.le_of_ble_eq_true rfl), (Nat.le_of_ble_eq_true rfl)⟩ rfl (fun r w1 H locs hQ V => ?_)
  rcases hQ with ⟨rfl, rfl, f_1, f_2⟩ | ⟨rfl, rfl, f_3⟩
  · have V : gW D T A s [(o, .inr (8, [.int (nI 0), .ref g1, .ref g2, .ref g3, .ref g4, .int (nI tp), .int w6, .int w7, .int w8, .int w9, .int w10, .int w11, .int w12, .int w13, .int w14, .ref g15, .int w16, .ref g17, .int w18, .int w19, .ref g20, .int w21, .ref g22, .ref g23, .ref g24, .int w25, .int w26, .int w27, .ref g28, .ref g29, .int w30, .ref g31, .ref g32, .ref g33])), (g1, .inl (T 0, 282, .inl fa)), (g15, .inl (T 0, 10, .inl fh)), (g31, .inl (T 0, 4, .inl fq)), (g32, .inl (T 0, 4, .inl fm)), (g33, .inl (T 1, 160, .inr (.inl fn)))] H locs := V _ [] rfl rfl rfl (by decide +kernel) rfl
    show W p l e _ s m args below meth c H locs _ _ _ (F0 m 14 ls [.int (nI 1)])
    obtain ⟨r, hr1, hr2, er⟩ := g_rng (by decide) (by decide) f_1 f_2
    rw [er] at hl
    obtain ⟨mz, hmz, emz⟩ := h_rm r (by omega)
    refine lv_if_ne (tgt := 20) hx hb dX8_perform_14 (by decide) (fun _ => ?_) (fun c => absurd (show (nI 1) = 0 from c) (by decide +kernel))
    refine lv_aload_n hx hb dX8_perform_20 rfl (lv_at hl 0 rfl) ?_
    refine g_get hC V (ci := 8) uwX8 0 rfl rfl 31 (by decide) w_943 rfl rfl dX8_perform_21 ?_
    refine lv_iload_n hx hb dX8_perform_24 rfl (lv_at hl 1 rfl) ?_
    refine g_iald hC V 3 rfl (vp_in_nI (by omega) (by omega)) (v := (fq r)) (congrArg _ (nI_clamp (by omega))) dX8_perform_25 ?_
    refine lv_iconst (v := (-1)) hx hb dX8_perform_26 (by decide +kernel) ?_
    refine lv_icmp_ne (tgt := 35) hx hb dX8_perform_27 (by decide) (fun c_4 => ?_) (fun c_4 => ?_)
    · skip
      have hq1 := c_4
      refine lv_aload_n hx hb dX8_perform_35 rfl (lv_at hl 0 rfl) ?_
      refine lv_iload_n hx hb dX8_perform_36 rfl (lv_at hl 1 rfl) ?_
      refine g_callVU (nA := 1) hC V hl.1 (m_minutesOf_f l D T mz n o r (nI 0) g1 g2 g3 g4 tp w6 w7 w8 w9 w10 w11 w12 w13 w14 g15 w16 g17 w18 w19 g20 w21 g22 g23 g24 w25 w26 w27 g28 g29 w30 g31 g32 g33 fa fh fm fn h_a (by first | assumption | omega) (by first | assumption | omega) (by first | assumption | omega)) w_1150 w_1152 w_s54 w_9 w_1153 (by decide +kernel) rfl ⟨(Nat.le_of_ble_eq_true rfl), (Nat.le_of_ble_eq_true rfl)⟩ 0 (ci := 8) rfl rfl [0, 1, 2, 4, 5] rfl rfl (Nat.le_of_ble_eq_true rfl) dX8_perform_37 ⟨(Nat.le_of_ble_eq_true rfl), (Nat.le_of_ble_eq_true rfl)⟩ rfl (fun r w1 H locs hQ V => ?_)
      obtain ⟨z_5, bm_6, b2_7, b3_8, ga_9, gh_10, rfl, rfl, f_11, f_12, f_13, f_14, f_15, f_16⟩ := hQ
      have V : gW D T A s [(o, .inr (8, [.int (nI 0), .ref g1, .ref g2, .ref g3, .ref g4, .int (nI tp), .int w6, .int w7, .int w8, .int w9, .int w10, .int w11, .int w12, .int w13, .int w14, .ref g15, .int bm_6, .ref g17, .int b2_7, .int b3_8, .ref g20, .int w21, .ref g22, .ref g23, .ref g24, .int w25, .int w26, .int w27, .ref g28, .ref g29, .int w30, .ref g31, .ref g32, .ref g33])), (g1, .inl (T 0, 282, .inl ga_9)), (g15, .inl (T 0, 10, .inl gh_10)), (g31, .inl (T 0, 4, .inl fq)), (g32, .inl (T 0, 4, .inl fm)), (g33, .inl (T 1, 160, .inr (.inl fn)))] H locs := V _ [0, 0, 0, 1, 0] rfl rfl rfl (by decide +kernel) rfl
      show W p l e _ s m args below meth c H locs _ _ _ (F0 m 40 ls [.int z_5])
      have hga_9 : MS n fa ga_9 := ms_tr (by assumption) f_11
      exact g_iret (Qr := (q_m_perform_f T n o row w0 g1 g2 g3 g4 tp w6 w7 w8 w9 w10 w11 w12 w13 w14 g15 w16 g17 w18 w19 g20 w21 g22 g23 g24 w25 w26 w27 g28 g29 w30 g31 g32 g33 fa fh fq fm fn)) hC V ⟨(Nat.le_of_ble_eq_true rfl), (Nat.le_of_ble_eq_true rfl)⟩ ⟨z_5, bm_6, b2_7, b3_8, ga_9, gh_10, rfl, rfl, f_11, (f_12.trans (per_y (n := n) (f := fa) (fn := fn) (rr_0 er (by omega) hq1) er (by omega) emz (by omega)).1), (f_13.trans (per_y (n := n) (f := fa) (fn := fn) (rr_0 er (by omega) hq1) er (by omega) emz (by omega)).2)⟩ dX8_perform_40
    · skip
      have hq0 := c_4
      refine lv_bipush (v := (-6)) hx hb dX8_perform_30 (by decide +kernel) ?_
      refine lv_goto (tgt := 40) hx hb dX8_perform_32 (by decide) ?_
      exact g_iret (Qr := (q_m_perform_f T n o row w0 g1 g2 g3 g4 tp w6 w7 w8 w9 w10 w11 w12 w13 w14 g15 w16 g17 w18 w19 g20 w21 g22 g23 g24 w25 w26 w27 g28 g29 w30 g31 g32 g33 fa fh fq fm fn)) hC V ⟨(Nat.le_of_ble_eq_true rfl), (Nat.le_of_ble_eq_true rfl)⟩ ⟨(-6), w16, w18, w19, fa, fh, rfl, rfl, ms0, (per_n (n := n) (f := fa) (fm := fm) (fn := fn) (rr_6 er (by omega) hq0) (by decide +kernel)).1, (per_n (n := n) (f := fa) (fm := fm) (fn := fn) (rr_6 er (by omega) hq0) (by decide +kernel)).2⟩ dX8_perform_40
  · have V : gW D T A s [(o, .inr (8, [.int (nI 0), .ref g1, .ref g2, .ref g3, .ref g4, .int (nI tp), .int w6, .int w7, .int w8, .int w9, .int w10, .int w11, .int w12, .int w13, .int w14, .ref g15, .int w16, .ref g17, .int w18, .int w19, .ref g20, .int w21, .ref g22, .ref g23, .ref g24, .int w25, .int w26, .int w27, .ref g28, .ref g29, .int w30, .ref g31, .ref g32, .ref g33])), (g1, .inl (T 0, 282, .inl fa)), (g15, .inl (T 0, 10, .inl fh)), (g31, .inl (T 0, 4, .inl fq)), (g32, .inl (T 0, 4, .inl fm)), (g33, .inl (T 1, 160, .inr (.inl fn)))] H locs := V _ [] rfl rfl rfl (by decide +kernel) rfl
    show W p l e _ s m args below meth c H locs _ _ _ (F0 m 14 ls [.int (nI 0)])
    have r0 : (row < 0 ∨ nI 4 ≤ row) := nv_r rfl (by decide) f_3
    refine lv_if_ne (tgt := 20) hx hb dX8_perform_14 (by decide) (fun c => absurd (show (nI 0) = 0 by decide +kernel) c) (fun _ => ?_)
    refine lv_bipush (v := (-2)) hx hb dX8_perform_17 (by decide +kernel) ?_
    exact g_iret (Qr := (q_m_perform_f T n o row w0 g1 g2 g3 g4 tp w6 w7 w8 w9 w10 w11 w12 w13 w14 g15 w16 g17 w18 w19 g20 w21 g22 g23 g24 w25 w26 w27 g28 g29 w30 g31 g32 g33 fa fh fq fm fn)) hC V ⟨(Nat.le_of_ble_eq_true rfl), (Nat.le_of_ble_eq_true rfl)⟩ ⟨(-2), w16, w18, w19, fa, fh, rfl, rfl, ms0, (per_n (n := n) (f := fa) (fm := fm) (fn := fn) (rr_2 r0) (by decide +kernel)).1, (per_n (n := n) (f := fa) (fm := fm) (fn := fn) (rr_2 r0) (by decide +kernel)).2⟩ dX8_perform_19

def q_t_isForeign_f (T : Nat → ClassId) (a0 : Nat) (v : Int64) (an : Nat) (am : Int32) (al : Int32) (ao : Int32) (au : Int32) (a1 : Nat) (a2 : Nat) (a3 : Nat) (a4 : Nat) (a5 : Nat) (a6 : Nat) (a7 : Nat) (a8 : Nat) (a9 : Nat) (a10 : Nat) : Option Value → va_W → Prop := fun rr ww => (rr = some (.int (nI 1)) ∧ ww = [(a0, .inr (5, [.int (nI an), .int am, .int al, .int ao, .int au, .ref a1, .ref a2, .ref a3, .ref a4, .ref a5, .ref a6, .ref a7, .ref a8, .ref a9, .ref a10]))] ∧ ¬ setL an v) ∨ (rr = some (.int (nI 0)) ∧ ww = [(a0, .inr (5, [.int (nI an), .int am, .int al, .int ao, .int au, .ref a1, .ref a2, .ref a3, .ref a4, .ref a5, .ref a6, .ref a7, .ref a8, .ref a9, .ref a10]))] ∧ setL an v)
set_option maxHeartbeats 4000000 in
set_option maxRecDepth 100000 in
theorem t_isForeign_f (l : Launch) (D : va_G) (T : Nat → ClassId) (a0 : Nat) (v : Int64) (an : Nat) (am : Int32) (al : Int32) (ao : Int32) (au : Int32) (a1 : Nat) (a2 : Nat) (a3 : Nat) (a4 : Nat) (a5 : Nat) (a6 : Nat) (a7 : Nat) (a8 : Nat) (a9 : Nat) (a10 : Nat) (h_n : an ≤ 10) : Ct l yX6_isForeign cX6_isForeign 3 (some .boolean) 1 0 0 D T [.ref a0, .long v] [(a0, .inr (5, [.int (nI an), .int am, .int al, .int ao, .int au, .ref a1, .ref a2, .ref a3, .ref a4, .ref a5, .ref a6, .ref a7, .ref a8, .ref a9, .ref a10]))] (q_t_isForeign_f T a0 v an am al ao au a1 a2 a3 a4 a5 a6 a7 a8 a9 a10) := by
  refine Ct.of (cc := cX6_isForeign) (maxL := 3) (ret := (some .boolean)) (by decide) (Nat.le_of_ble_eq_true rfl) ?_
  intro p e s m args below meth c A ls hC hnm V hl
  obtain ⟨hx, hb, hr, hml, hown, hts, hlocks⟩ := id hC
  generalize hH : s.heap = H at V ⊢
  clear hH
  have hl : lv_has ls 3 [(0, .ref a0), (1, .long v)] := hl
  generalize hlo : ([] : List Loc) = locs at V ⊢
  clear hlo
  refine lv_lload_n hx hb dX6_isForeign_0 rfl (lv_at hl 1 rfl) ?_
  refine lv_lconst (v := (nI 0).toInt64) hx hb dX6_isForeign_1 (by decide +kernel) ?_
  refine W.lcmp hx hb dX6_isForeign_2 ?_
  refine lv_if_lt (tgt := 16) hx hb dX6_isForeign_3 (by decide) (fun c_1 => ?_) (fun c_1 => ?_)
  · skip
    have c_1 := (lg_cmp_lt _ _).mp c_1
    refine lv_iconst (v := (nI 1)) hx hb dX6_isForeign_16 (by decide +kernel) ?_
    refine lv_goto (tgt := 21) hx hb dX6_isForeign_17 (by decide) ?_
    exact g_zret (Qr := (q_t_isForeign_f T a0 v an am al ao au a1 a2 a3 a4 a5 a6 a7 a8 a9 a10)) hC V ⟨(Nat.le_of_ble_eq_true rfl), (Nat.le_of_ble_eq_true rfl)⟩ (by first | decide +kernel | exact rfl) (.inl ⟨rfl, rfl, (fun h => h (by first | exact Or.inl (by assumption) | exact Or.inr (by assumption)))⟩) dX6_isForeign_21
  · skip
    have c_1 := fun h => c_1 ((lg_cmp_lt _ _).mpr h)
    refine lv_lload_n hx hb dX6_isForeign_6 rfl (lv_at hl 1 rfl) ?_
    refine lv_aload_n hx hb dX6_isForeign_7 rfl (lv_at hl 0 rfl) ?_
    refine g_callV (wr := []) (nA := 0) hC V hl.1 (s_everyone l D T a0 an am al ao au a1 a2 a3 a4 a5 a6 a7 a8 a9 a10 (by first | assumption | omega)) w_514 w_463 w_464 w_3 w_465 (by decide +kernel) rfl ⟨(Nat.le_of_ble_eq_true rfl), (Nat.le_of_ble_eq_true rfl)⟩ 0 (ci := 5) rfl rfl [0] [] rfl rfl rfl rfl (by decide) (Nat.le_of_ble_eq_true rfl) dX6_isForeign_8 ⟨(Nat.le_of_ble_eq_true rfl), (Nat.le_of_ble_eq_true rfl)⟩ rfl (fun r w1 H locs hQ V => ?_)
    obtain ⟨rfl, rfl⟩ := hQ
    have V : gW D T A s [(a0, .inr (5, [.int (nI an), .int am, .int al, .int ao, .int au, .ref a1, .ref a2, .ref a3, .ref a4, .ref a5, .ref a6, .ref a7, .ref a8, .ref a9, .ref a10]))] H locs := V
    show W p l e _ s m args below meth c H locs _ _ _ (F0 m 11 ls [.int (nI (2 ^ an - 1)), .long v])
    refine lv_i2l (v := (nI (2 ^ an - 1)).toInt64) hx hb dX6_isForeign_11 rfl ?_
    refine W.lcmp hx hb dX6_isForeign_12 ?_
    refine lv_if_le (tgt := 20) hx hb dX6_isForeign_13 (by decide) (fun c_2 => ?_) (fun c_2 => ?_)
    · skip
      have c_2 := fun h => (Int32.not_lt.mpr c_2) ((lg_cmp_gt _ _).mpr h)
      refine lv_iconst (v := (nI 0)) hx hb dX6_isForeign_20 (by decide +kernel) ?_
      exact g_zret (Qr := (q_t_isForeign_f T a0 v an am al ao au a1 a2 a3 a4 a5 a6 a7 a8 a9 a10)) hC V ⟨(Nat.le_of_ble_eq_true rfl), (Nat.le_of_ble_eq_true rfl)⟩ (by first | decide +kernel | exact rfl) (.inr ⟨rfl, rfl, (fun q => q.elim (by assumption) (by assumption))⟩) dX6_isForeign_21
    · skip
      have c_2 := (lg_cmp_gt _ _).mp (Int32.not_le.mp c_2)
      refine lv_iconst (v := (nI 1)) hx hb dX6_isForeign_16 (by decide +kernel) ?_
      refine lv_goto (tgt := 21) hx hb dX6_isForeign_17 (by decide) ?_
      exact g_zret (Qr := (q_t_isForeign_f T a0 v an am al ao au a1 a2 a3 a4 a5 a6 a7 a8 a9 a10)) hC V ⟨(Nat.le_of_ble_eq_true rfl), (Nat.le_of_ble_eq_true rfl)⟩ (by first | decide +kernel | exact rfl) (.inl ⟨rfl, rfl, (fun h => h (by first | exact Or.inl (by assumption) | exact Or.inr (by assumption)))⟩) dX6_isForeign_21

def q_t_whyNot_f (T : Nat → ClassId) (fa : Nat → Int32) (R : Nat → Int64) (a0 : Nat) (r0 : Nat) (i : Nat) (an : Nat) (am : Int32) (al : Int32) (ao : Int32) (au : Int32) (a1 : Nat) (a2 : Nat) (a3 : Nat) (a4 : Nat) (a5 : Nat) (a6 : Nat) (a7 : Nat) (a8 : Nat) (a9 : Nat) (a10 : Nat) (rh : Int32) (rz : Nat) (r1 : Nat) (rs : Nat) (rf : Nat → Int64) : Option Value → va_W → Prop := fun rr ww => (rr = some (.int (nI 0)) ∧ ww = [(a0, .inr (5, [.int (nI an), .int am, .int al, .int ao, .int au, .ref a1, .ref a2, .ref a3, .ref a4, .ref a5, .ref a6, .ref a7, .ref a8, .ref a9, .ref a10])), (r0, .inr (1, [.int rh, .int (nI rz), .ref r1, .int (nI rs)])), (r1, .inl (T 1, 40, .inr (.inl rf)))] ∧ i + 1 < rz ∧ nI 0 = whL an fa R rz i) ∨ (∃ (z : Int32), rr = some (.int z) ∧ ww = [(a0, .inr (5, [.int (nI an), .int am, .int al, .int ao, .int au, .ref a1, .ref a2, .ref a3, .ref a4, .ref a5, .ref a6, .ref a7, .ref a8, .ref a9, .ref a10])), (r0, .inr (1, [.int rh, .int (nI rz), .ref r1, .int (nI rs)])), (r1, .inl (T 1, 40, .inr (.inl rf)))] ∧ ¬ z = 0 ∧ z = whL an fa R rz i)
set_option maxHeartbeats 4000000 in
set_option maxRecDepth 100000 in
theorem t_whyNot_f (l : Launch) (D : va_G) (T : Nat → ClassId) (fa : Nat → Int32) (R : Nat → Int64) (a0 : Nat) (r0 : Nat) (i : Nat) (an : Nat) (am : Int32) (al : Int32) (ao : Int32) (au : Int32) (a1 : Nat) (a2 : Nat) (a3 : Nat) (a4 : Nat) (a5 : Nat) (a6 : Nat) (a7 : Nat) (a8 : Nat) (a9 : Nat) (a10 : Nat) (rh : Int32) (rz : Nat) (r1 : Nat) (rs : Nat) (rf : Nat → Int64) (h_n : an ≤ 10) (h_z : rz ≤ 40) (h_i : i < rz) (h_r : ∀ i, i < rz → rf i = R i) (h_m : fa 1 = am) (h_mn : bd (fa 1) 10000) : Ct l yX6_whyNot cX6_whyNot 7 (some .int) 2 0 0 D T [.ref a0, .ref r0, .int (nI i)] [(a0, .inr (5, [.int (nI an), .int am, .int al, .int ao, .int au, .ref a1, .ref a2, .ref a3, .ref a4, .ref a5, .ref a6, .ref a7, .ref a8, .ref a9, .ref a10])), (r0, .inr (1, [.int rh, .int (nI rz), .ref r1, .int (nI rs)])), (r1, .inl (T 1, 40, .inr (.inl rf)))] (q_t_whyNot_f T fa R a0 r0 i an am al ao au a1 a2 a3 a4 a5 a6 a7 a8 a9 a10 rh rz r1 rs rf) := by
  refine Ct.of (cc := cX6_whyNot) (maxL := 7) (ret := (some .int)) (by decide) (Nat.le_of_ble_eq_true rfl) ?_
  intro p e s m args below meth c A ls hC hnm V hl
  obtain ⟨hx, hb, hr, hml, hown, hts, hlocks⟩ := id hC
  generalize hH : s.heap = H at V ⊢
  clear hH
  have hl : lv_has ls 7 [(0, .ref a0), (1, .ref r0), (2, .int (nI i))] := hl
  generalize hlo : ([] : List Loc) = locs at V ⊢
  clear hlo
  refine lv_aload_n hx hb dX6_whyNot_0 rfl (lv_at hl 1 rfl) ?_
  refine g_get hC V (ci := 1) uwX1 1 rfl rfl 2 (by decide) w_235 rfl rfl dX6_whyNot_1 ?_
  refine lv_iload_n hx hb dX6_whyNot_4 rfl (lv_at hl 2 rfl) ?_
  refine g_lald hC V 2 rfl (vp_in_nI (by omega) (by omega)) (v := (rf i)) (congrArg _ (nI_clamp (by omega))) dX6_whyNot_5 ?_
  refine lv_lstore_n (lv' := [(3, .long (rf i)), (0, .ref a0), (1, .ref r0), (2, .int (nI i))]) hx hb dX6_whyNot_6 rfl hl (by decide) rfl (fun ls hl => ?_)
  refine lv_aload_n hx hb dX6_whyNot_7 rfl (lv_at hl 1 rfl) ?_
  refine lv_lload_n hx hb dX6_whyNot_8 rfl (lv_at hl 0 rfl) ?_
  refine g_callSU (nA := 2) hC V hl.1 (t_isForeign_f l D T a0 (rf i) an am al ao au a1 a2 a3 a4 a5 a6 a7 a8 a9 a10 (by first | assumption | omega)) w_511 w_512 w_5 w_513 (by decide +kernel) rfl ⟨(Nat.le_of_ble_eq_true rfl), (Nat.le_of_ble_eq_true rfl)⟩ [0] rfl rfl (Nat.le_of_ble_eq_true rfl) dX6_whyNot_9 ⟨(Nat.le_of_ble_eq_true rfl), (Nat.le_of_ble_eq_true rfl)⟩ rfl (fun r w1 H locs hQ V => ?_)
  rcases hQ with ⟨rfl, rfl, f_1⟩ | ⟨rfl, rfl, f_2⟩
  · have V : gW D T A s [(a0, .inr (5, [.int (nI an), .int am, .int al, .int ao, .int au, .ref a1, .ref a2, .ref a3, .ref a4, .ref a5, .ref a6, .ref a7, .ref a8, .ref a9, .ref a10])), (r0, .inr (1, [.int rh, .int (nI rz), .ref r1, .int (nI rs)])), (r1, .inl (T 1, 40, .inr (.inl rf)))] H locs := V _ [0] rfl rfl rfl (by decide +kernel) rfl
    show W p l e _ s m args below meth c H locs _ _ _ (F0 m 12 ls [.int (nI 1)])
    refine lv_if_eq (tgt := 17) hx hb dX6_whyNot_12 (by decide) (fun c => absurd (show (nI 1) = 0 from c) (by decide +kernel)) (fun _ => ?_)
    refine lv_iconst (v := (nI 1)) hx hb dX6_whyNot_15 (by decide +kernel) ?_
    exact g_iret (Qr := (q_t_whyNot_f T fa R a0 r0 i an am al ao au a1 a2 a3 a4 a5 a6 a7 a8 a9 a10 rh rz r1 rs rf)) hC V ⟨(Nat.le_of_ble_eq_true rfl), (Nat.le_of_ble_eq_true rfl)⟩ (.inr ⟨(nI 1), rfl, rfl, (by decide +kernel), (wl_1 (R := R) (h_r i h_i) f_1)⟩) dX6_whyNot_16
  · have V : gW D T A s [(a0, .inr (5, [.int (nI an), .int am, .int al, .int ao, .int au, .ref a1, .ref a2, .ref a3, .ref a4, .ref a5, .ref a6, .ref a7, .ref a8, .ref a9, .ref a10])), (r0, .inr (1, [.int rh, .int (nI rz), .ref r1, .int (nI rs)])), (r1, .inl (T 1, 40, .inr (.inl rf)))] H locs := V _ [0] rfl rfl rfl (by decide +kernel) rfl
    show W p l e _ s m args below meth c H locs _ _ _ (F0 m 12 ls [.int (nI 0)])
    refine lv_if_eq (tgt := 17) hx hb dX6_whyNot_12 (by decide) (fun _ => ?_) (fun c => absurd (show (nI 0) = 0 by decide +kernel) c)
    refine lv_iload_n hx hb dX6_whyNot_17 rfl (lv_at hl 3 rfl) ?_
    refine lv_iconst (v := (nI 1)) hx hb dX6_whyNot_18 (by decide +kernel) ?_
    refine lv_iadd hx hb dX6_whyNot_19 ?_
    refine g_vi (y := (nI (i + 1))) (nI_add _ _) ?_
    refine lv_aload_n hx hb dX6_whyNot_20 rfl (lv_at hl 2 rfl) ?_
    refine g_get hC V (ci := 1) uwX1 1 rfl rfl 1 (by decide) w_231 rfl rfl dX6_whyNot_21 ?_
    refine lv_icmp_lt (tgt := 29) hx hb dX6_whyNot_24 (by decide) (fun c_3 => ?_) (fun c_3 => ?_)
    · skip
      have c_3 := b_lt (by omega) (by omega) c_3
      refine lv_aload_n hx hb dX6_whyNot_29 rfl (lv_at hl 2 rfl) ?_
      refine g_get hC V (ci := 1) uwX1 1 rfl rfl 2 (by decide) w_235 rfl rfl dX6_whyNot_30 ?_
      refine lv_iload_n hx hb dX6_whyNot_33 rfl (lv_at hl 3 rfl) ?_
      refine lv_iconst (v := (nI 1)) hx hb dX6_whyNot_34 (by decide +kernel) ?_
      refine lv_iadd hx hb dX6_whyNot_35 ?_
      refine g_vi (y := (nI (i + 1))) (nI_add _ _) ?_
      refine g_lald hC V 2 rfl (vp_in_nI (by omega) (by omega)) (v := (rf (i + 1))) (congrArg _ (nI_clamp (by omega))) dX6_whyNot_36 ?_
      refine lv_lstore (lv' := [(5, .long (rf (i + 1))), (3, .long (rf i)), (0, .ref a0), (1, .ref r0), (2, .int (nI i))]) hx hb dX6_whyNot_37 hl (by decide) rfl (fun ls hl => ?_)
      refine lv_aload_n hx hb dX6_whyNot_39 rfl (lv_at hl 2 rfl) ?_
      refine lv_lload hx hb dX6_whyNot_40 (lv_at hl 0 rfl) ?_
      refine g_callSU (nA := 2) hC V hl.1 (t_isForeign_f l D T a0 (rf (i + 1)) an am al ao au a1 a2 a3 a4 a5 a6 a7 a8 a9 a10 (by first | assumption | omega)) w_511 w_512 w_5 w_513 (by decide +kernel) rfl ⟨(Nat.le_of_ble_eq_true rfl), (Nat.le_of_ble_eq_true rfl)⟩ [0] rfl rfl (Nat.le_of_ble_eq_true rfl) dX6_whyNot_42 ⟨(Nat.le_of_ble_eq_true rfl), (Nat.le_of_ble_eq_true rfl)⟩ rfl (fun r w1 H locs hQ V => ?_)
      rcases hQ with ⟨rfl, rfl, f_4⟩ | ⟨rfl, rfl, f_5⟩
      · have V : gW D T A s [(a0, .inr (5, [.int (nI an), .int am, .int al, .int ao, .int au, .ref a1, .ref a2, .ref a3, .ref a4, .ref a5, .ref a6, .ref a7, .ref a8, .ref a9, .ref a10])), (r0, .inr (1, [.int rh, .int (nI rz), .ref r1, .int (nI rs)])), (r1, .inl (T 1, 40, .inr (.inl rf)))] H locs := V _ [0] rfl rfl rfl (by decide +kernel) rfl
        show W p l e _ s m args below meth c H locs _ _ _ (F0 m 45 ls [.int (nI 1)])
        refine lv_if_eq (tgt := 50) hx hb dX6_whyNot_45 (by decide) (fun c => absurd (show (nI 1) = 0 from c) (by decide +kernel)) (fun _ => ?_)
        refine lv_iconst (v := (nI 1)) hx hb dX6_whyNot_48 (by decide +kernel) ?_
        exact g_iret (Qr := (q_t_whyNot_f T fa R a0 r0 i an am al ao au a1 a2 a3 a4 a5 a6 a7 a8 a9 a10 rh rz r1 rs rf)) hC V ⟨(Nat.le_of_ble_eq_true rfl), (Nat.le_of_ble_eq_true rfl)⟩ (.inr ⟨(nI 1), rfl, rfl, (by decide +kernel), (wl_1b (R := R) (h_r i h_i) f_2 (by omega) (h_r (i + 1) (by omega)) f_4)⟩) dX6_whyNot_49
      · have V : gW D T A s [(a0, .inr (5, [.int (nI an), .int am, .int al, .int ao, .int au, .ref a1, .ref a2, .ref a3, .ref a4, .ref a5, .ref a6, .ref a7, .ref a8, .ref a9, .ref a10])), (r0, .inr (1, [.int rh, .int (nI rz), .ref r1, .int (nI rs)])), (r1, .inl (T 1, 40, .inr (.inl rf)))] H locs := V _ [0] rfl rfl rfl (by decide +kernel) rfl
        show W p l e _ s m args below meth c H locs _ _ _ (F0 m 45 ls [.int (nI 0)])
        refine lv_if_eq (tgt := 50) hx hb dX6_whyNot_45 (by decide) (fun _ => ?_) (fun c => absurd (show (nI 0) = 0 by decide +kernel) c)
        refine lv_lload_n hx hb dX6_whyNot_50 rfl (lv_at hl 1 rfl) ?_
        refine lv_lload hx hb dX6_whyNot_51 (lv_at hl 0 rfl) ?_
        refine lv_land hx hb dX6_whyNot_53 ?_
        refine lv_lconst (v := (nI 0).toInt64) hx hb dX6_whyNot_54 (by decide +kernel) ?_
        refine W.lcmp hx hb dX6_whyNot_55 ?_
        refine lv_if_eq (tgt := 61) hx hb dX6_whyNot_56 (by decide) (fun c_6 => ?_) (fun c_6 => ?_)
        · skip
          refine lv_aload_n hx hb dX6_whyNot_61 rfl (lv_at hl 2 rfl) ?_
          refine g_get hC V (ci := 5) uwX5 0 rfl rfl 1 (by decide) w_40 rfl rfl dX6_whyNot_62 ?_
          refine lv_sipush (v := (nI 9999)) hx hb dX6_whyNot_65 (by decide +kernel) ?_
          refine lv_icmp_lt (tgt := 75) hx hb dX6_whyNot_68 (by decide) (fun c_7 => ?_) (fun c_7 => ?_)
          · skip
            refine lv_iconst (v := (nI 0)) hx hb dX6_whyNot_75 (by decide +kernel) ?_
            exact g_iret (Qr := (q_t_whyNot_f T fa R a0 r0 i an am al ao au a1 a2 a3 a4 a5 a6 a7 a8 a9 a10 rh rz r1 rs rf)) hC V ⟨(Nat.le_of_ble_eq_true rfl), (Nat.le_of_ble_eq_true rfl)⟩ (.inl ⟨rfl, rfl, (by omega), (wl_0 (R := R) (h_r i h_i) f_2 (by omega) (h_r (i + 1) (by omega)) f_5 ((lg_cmp_eq _ _).mp c_6) (m9_lt h_m c_7))⟩) dX6_whyNot_76
          · skip
            refine lv_iconst (v := (nI 4)) hx hb dX6_whyNot_71 (by decide +kernel) ?_
            refine lv_goto (tgt := 76) hx hb dX6_whyNot_72 (by decide) ?_
            exact g_iret (Qr := (q_t_whyNot_f T fa R a0 r0 i an am al ao au a1 a2 a3 a4 a5 a6 a7 a8 a9 a10 rh rz r1 rs rf)) hC V ⟨(Nat.le_of_ble_eq_true rfl), (Nat.le_of_ble_eq_true rfl)⟩ (.inr ⟨(nI 4), rfl, rfl, (by decide +kernel), (wl_4 (R := R) (h_r i h_i) f_2 (by omega) (h_r (i + 1) (by omega)) f_5 ((lg_cmp_eq _ _).mp c_6) (m9_ge h_m h_mn c_7))⟩) dX6_whyNot_76
        · skip
          refine lv_iconst (v := (nI 2)) hx hb dX6_whyNot_59 (by decide +kernel) ?_
          exact g_iret (Qr := (q_t_whyNot_f T fa R a0 r0 i an am al ao au a1 a2 a3 a4 a5 a6 a7 a8 a9 a10 rh rz r1 rs rf)) hC V ⟨(Nat.le_of_ble_eq_true rfl), (Nat.le_of_ble_eq_true rfl)⟩ (.inr ⟨(nI 2), rfl, rfl, (by decide +kernel), (wl_2 (R := R) (h_r i h_i) f_2 (by omega) (h_r (i + 1) (by omega)) f_5 (fun q => c_6 ((lg_cmp_eq _ _).mpr q)))⟩) dX6_whyNot_60
    · skip
      have c_3 := b_nlt (by omega) (by omega) c_3
      refine lv_iconst (v := (nI 3)) hx hb dX6_whyNot_27 (by decide +kernel) ?_
      exact g_iret (Qr := (q_t_whyNot_f T fa R a0 r0 i an am al ao au a1 a2 a3 a4 a5 a6 a7 a8 a9 a10 rh rz r1 rs rf)) hC V ⟨(Nat.le_of_ble_eq_true rfl), (Nat.le_of_ble_eq_true rfl)⟩ (.inr ⟨(nI 3), rfl, rfl, (by decide +kernel), (wl_3 (R := R) (h_r i h_i) f_2 (by omega))⟩) dX6_whyNot_28

def q_t_passOn_f (T : Nat → ClassId) (fa : Nat → Int32) (R : Nat → Int64) (u0 : Nat) (a0 : Nat) (r0 : Nat) (tp : Int32) (ty : Int32) (tc : Int32) (an : Nat) (am : Int32) (al : Int32) (ao : Int32) (au : Int32) (a1 : Nat) (a2 : Nat) (a3 : Nat) (a4 : Nat) (a5 : Nat) (a6 : Nat) (a7 : Nat) (a8 : Nat) (a9 : Nat) (a10 : Nat) (af1 : Nat → Int32) (af2 : Nat → Int32) (af3 : Nat → Int32) (af4 : Nat → Int32) (af5 : Nat → Int32) (af6 : Nat → Int32) (af7 : Nat → Int32) (af8 : Nat → Int32) (af9 : Nat → Int32) (af10 : Nat → Int32) (rh : Int32) (rz : Nat) (r1 : Nat) (rs : Nat) (rf : Nat → Int64) : Option Value → va_W → Prop := fun rr ww => (∃ (z1 : Int32) (z2 : Int32) (z3 : Int32) (mm : Int32) (uu : Int32) (g3 : Nat → Int32) (g7 : Nat → Int32) (g8 : Nat → Int32) (g10 : Nat → Int32), rr = none ∧ ww = [(u0, .inr (6, [.int z1, .int z2, .int z3])), (a0, .inr (5, [.int (nI an), .int mm, .int al, .int ao, .int uu, .ref a1, .ref a2, .ref a3, .ref a4, .ref a5, .ref a6, .ref a7, .ref a8, .ref a9, .ref a10])), (a1, .inl (T 0, 10, .inl af1)), (a2, .inl (T 0, 10, .inl af2)), (a3, .inl (T 0, 10, .inl g3)), (a4, .inl (T 0, 10, .inl af4)), (a5, .inl (T 0, 10, .inl af5)), (a6, .inl (T 0, 10, .inl af6)), (a7, .inl (T 0, 10, .inl g7)), (a8, .inl (T 0, 10, .inl g8)), (a9, .inl (T 0, 10, .inl af9)), (a10, .inl (T 0, 10, .inl g10)), (r0, .inr (1, [.int rh, .int (nI rz), .ref r1, .int (nI rs)])), (r1, .inl (T 1, 40, .inr (.inl rf)))] ∧ z1 = nI ((tlE an fa R rz 42 0).1 / 2) ∧ z2 = (tlE an fa R rz 42 0).2 ∧ z3 = tlC an fa R (tlE an fa R rz 42 0).1 ∧ uu = au + tlB an fa R (tlE an fa R rz 42 0).1 ∧ SR an mm al ao af1 af2 g3 af4 af5 af6 g7 af9 (tlI an fa R (tlE an fa R rz 42 0).1))
set_option maxHeartbeats 4000000 in
set_option maxRecDepth 100000 in
theorem t_passOn_f (l : Launch) (D : va_G) (T : Nat → ClassId) (fa : Nat → Int32) (R : Nat → Int64) (u0 : Nat) (a0 : Nat) (r0 : Nat) (tp : Int32) (ty : Int32) (tc : Int32) (an : Nat) (am : Int32) (al : Int32) (ao : Int32) (au : Int32) (a1 : Nat) (a2 : Nat) (a3 : Nat) (a4 : Nat) (a5 : Nat) (a6 : Nat) (a7 : Nat) (a8 : Nat) (a9 : Nat) (a10 : Nat) (af1 : Nat → Int32) (af2 : Nat → Int32) (af3 : Nat → Int32) (af4 : Nat → Int32) (af5 : Nat → Int32) (af6 : Nat → Int32) (af7 : Nat → Int32) (af8 : Nat → Int32) (af9 : Nat → Int32) (af10 : Nat → Int32) (rh : Int32) (rz : Nat) (r1 : Nat) (rs : Nat) (rf : Nat → Int64) (h_n : an ≤ 10) (h_t : ∀ i, i < an → bd (af9 i) an) (h_z : rz ≤ 40) (h_sr : SR an am al ao af1 af2 af3 af4 af5 af6 af7 af9 fa) (h_a : MI an fa) (h_mn : bd (fa 1) 10000) (h_r : ∀ i, i < rz → rf i = R i) : Ct l yX6_passOn cX6_passOn 4 none 3 0 0 D T [.ref u0, .ref a0, .ref r0] [(u0, .inr (6, [.int tp, .int ty, .int tc])), (a0, .inr (5, [.int (nI an), .int am, .int al, .int ao, .int au, .ref a1, .ref a2, .ref a3, .ref a4, .ref a5, .ref a6, .ref a7, .ref a8, .ref a9, .ref a10])), (a1, .inl (T 0, 10, .inl af1)), (a2, .inl (T 0, 10, .inl af2)), (a3, .inl (T 0, 10, .inl af3)), (a4, .inl (T 0, 10, .inl af4)), (a5, .inl (T 0, 10, .inl af5)), (a6, .inl (T 0, 10, .inl af6)), (a7, .inl (T 0, 10, .inl af7)), (a8, .inl (T 0, 10, .inl af8)), (a9, .inl (T 0, 10, .inl af9)), (a10, .inl (T 0, 10, .inl af10)), (r0, .inr (1, [.int rh, .int (nI rz), .ref r1, .int (nI rs)])), (r1, .inl (T 1, 40, .inr (.inl rf)))] (q_t_passOn_f T fa R u0 a0 r0 tp ty tc an am al ao au a1 a2 a3 a4 a5 a6 a7 a8 a9 a10 af1 af2 af3 af4 af5 af6 af7 af8 af9 af10 rh rz r1 rs rf) := by
  refine Ct.of (cc := cX6_passOn) (maxL := 4) (ret := none) (by decide) (Nat.le_of_ble_eq_true rfl) ?_
  intro p e s m args below meth c A ls hC hnm V hl
  obtain ⟨hx, hb, hr, hml, hown, hts, hlocks⟩ := id hC
  generalize hH : s.heap = H at V ⊢
  clear hH
  have hl : lv_has ls 4 [(0, .ref u0), (1, .ref a0), (2, .ref r0)] := hl
  generalize hlo : ([] : List Loc) = locs at V ⊢
  clear hlo
  refine lv_aload_n hx hb dX6_passOn_0 rfl (lv_at hl 0 rfl) ?_
  refine lv_iconst (v := (nI 0)) hx hb dX6_passOn_1 (by decide +kernel) ?_
  refine g_put hC V (ci := 6) uwX6 tyX6 tyX6_ok nmX6 0 rfl rfl 0 (by decide) w_164 rfl rfl rfl rfl (Nat.le_of_ble_eq_true rfl) (ws' := [(u0, .inr (6, [.int (nI 0), .int ty, .int tc])), (a0, .inr (5, [.int (nI an), .int am, .int al, .int ao, .int au, .ref a1, .ref a2, .ref a3, .ref a4, .ref a5, .ref a6, .ref a7, .ref a8, .ref a9, .ref a10])), (a1, .inl (T 0, 10, .inl af1)), (a2, .inl (T 0, 10, .inl af2)), (a3, .inl (T 0, 10, .inl af3)), (a4, .inl (T 0, 10, .inl af4)), (a5, .inl (T 0, 10, .inl af5)), (a6, .inl (T 0, 10, .inl af6)), (a7, .inl (T 0, 10, .inl af7)), (a8, .inl (T 0, 10, .inl af8)), (a9, .inl (T 0, 10, .inl af9)), (a10, .inl (T 0, 10, .inl af10)), (r0, .inr (1, [.int rh, .int (nI rz), .ref r1, .int (nI rs)])), (r1, .inl (T 1, 40, .inr (.inl rf)))]) rfl dX6_passOn_2 (fun H locs V => ?_)
  refine lv_aload_n hx hb dX6_passOn_5 rfl (lv_at hl 0 rfl) ?_
  refine lv_iconst (v := (nI 0)) hx hb dX6_passOn_6 (by decide +kernel) ?_
  refine g_put hC V (ci := 6) uwX6 tyX6 tyX6_ok nmX6 0 rfl rfl 1 (by decide) w_166 rfl rfl rfl rfl (Nat.le_of_ble_eq_true rfl) (ws' := [(u0, .inr (6, [.int (nI 0), .int (nI 0), .int tc])), (a0, .inr (5, [.int (nI an), .int am, .int al, .int ao, .int au, .ref a1, .ref a2, .ref a3, .ref a4, .ref a5, .ref a6, .ref a7, .ref a8, .ref a9, .ref a10])), (a1, .inl (T 0, 10, .inl af1)), (a2, .inl (T 0, 10, .inl af2)), (a3, .inl (T 0, 10, .inl af3)), (a4, .inl (T 0, 10, .inl af4)), (a5, .inl (T 0, 10, .inl af5)), (a6, .inl (T 0, 10, .inl af6)), (a7, .inl (T 0, 10, .inl af7)), (a8, .inl (T 0, 10, .inl af8)), (a9, .inl (T 0, 10, .inl af9)), (a10, .inl (T 0, 10, .inl af10)), (r0, .inr (1, [.int rh, .int (nI rz), .ref r1, .int (nI rs)])), (r1, .inl (T 1, 40, .inr (.inl rf)))]) rfl dX6_passOn_7 (fun H locs V => ?_)
  refine lv_aload_n hx hb dX6_passOn_10 rfl (lv_at hl 0 rfl) ?_
  refine lv_iconst (v := (nI 0)) hx hb dX6_passOn_11 (by decide +kernel) ?_
  refine g_put hC V (ci := 6) uwX6 tyX6 tyX6_ok nmX6 0 rfl rfl 2 (by decide) w_168 rfl rfl rfl rfl (Nat.le_of_ble_eq_true rfl) (ws' := [(u0, .inr (6, [.int (nI 0), .int (nI 0), .int (nI 0)])), (a0, .inr (5, [.int (nI an), .int am, .int al, .int ao, .int au, .ref a1, .ref a2, .ref a3, .ref a4, .ref a5, .ref a6, .ref a7, .ref a8, .ref a9, .ref a10])), (a1, .inl (T 0, 10, .inl af1)), (a2, .inl (T 0, 10, .inl af2)), (a3, .inl (T 0, 10, .inl af3)), (a4, .inl (T 0, 10, .inl af4)), (a5, .inl (T 0, 10, .inl af5)), (a6, .inl (T 0, 10, .inl af6)), (a7, .inl (T 0, 10, .inl af7)), (a8, .inl (T 0, 10, .inl af8)), (a9, .inl (T 0, 10, .inl af9)), (a10, .inl (T 0, 10, .inl af10)), (r0, .inr (1, [.int rh, .int (nI rz), .ref r1, .int (nI rs)])), (r1, .inl (T 1, 40, .inr (.inl rf)))]) rfl dX6_passOn_12 (fun H locs V => ?_)
  refine lv_iconst (v := (nI 0)) hx hb dX6_passOn_15 (by decide +kernel) ?_
  refine lv_istore_n (lv' := [(3, .int (nI 0)), (0, .ref u0), (1, .ref a0), (2, .ref r0)]) hx hb dX6_passOn_16 rfl hl (by decide) rfl (fun ls hl => ?_)
  have L_1 : ∀ (fu : Nat) (k : Nat) (v1 : Int32) (v2 : Int32) (v3 : Int32) (mv : Int32) (uv : Int32) (ga : Nat → Int32) (gb : Nat → Int32) (gc : Nat → Int32) (gd : Nat → Int32), k ≤ rz + 1 → v1 = nI (k / 2) → v2 = nI 0 → v3 = tlC an fa R k → uv = au + tlB an fa R k → SR an mv al ao af1 af2 ga af4 af5 af6 gb af9 (tlI an fa R k) → bd (tlI an fa R k 1) 10000 → tlE an fa R rz 42 0 = tlE an fa R rz (42 - k) k → rz + 1 - k < fu → ∀ (H : Heap) (locs : List Loc) (ls : Array Slot), gW D T A s [(u0, .inr (6, [.int v1, .int v2, .int v3])), (a0, .inr (5, [.int (nI an), .int mv, .int al, .int ao, .int uv, .ref a1, .ref a2, .ref a3, .ref a4, .ref a5, .ref a6, .ref a7, .ref a8, .ref a9, .ref a10])), (a1, .inl (T 0, 10, .inl af1)), (a2, .inl (T 0, 10, .inl af2)), (a3, .inl (T 0, 10, .inl ga)), (a4, .inl (T 0, 10, .inl af4)), (a5, .inl (T 0, 10, .inl af5)), (a6, .inl (T 0, 10, .inl af6)), (a7, .inl (T 0, 10, .inl gb)), (a8, .inl (T 0, 10, .inl gc)), (a9, .inl (T 0, 10, .inl af9)), (a10, .inl (T 0, 10, .inl gd)), (r0, .inr (1, [.int rh, .int (nI rz), .ref r1, .int (nI rs)])), (r1, .inl (T 1, 40, .inr (.inl rf)))] H locs → lv_has ls 4 [(3, .int (nI k)), (0, .ref u0), (1, .ref a0), (2, .ref r0)] → W p l e (rmD 3 0 0) s m args below meth c H locs 0 0 (MQ below (gQ D A (q_t_passOn_f T fa R u0 a0 r0 tp ty tc an am al ao au a1 a2 a3 a4 a5 a6 a7 a8 a9 a10 af1 af2 af3 af4 af5 af6 af7 af8 af9 af10 rh rz r1 rs rf)) args s 0 0 A) (F0 m 17 ls []) := by
    intro fu_17
    induction fu_17 with
    | zero => intro k v1 v2 v3 mv uv ga gb gc gd hk hv1 hv2 hv3 huv hSR hmb hE hmu; exact absurd hmu (Nat.not_lt_zero _)
    | succ fu_17 ih_17 =>
      intro k v1 v2 v3 mv uv ga gb gc gd hk hv1 hv2 hv3 huv hSR hmb hE hmu_17 H locs ls V hl
      refine lv_iload_n hx hb dX6_passOn_17 rfl (lv_at hl 0 rfl) ?_
      refine lv_aload_n hx hb dX6_passOn_18 rfl (lv_at hl 3 rfl) ?_
      refine g_get hC V (ci := 1) uwX1 12 rfl rfl 1 (by decide) w_231 rfl rfl dX6_passOn_19 ?_
      refine lv_icmp_ge (tgt := 90) hx hb dX6_passOn_22 (by decide) (fun c_2 => ?_) (fun c_2 => ?_)
      · skip
        have c_2 := b_le (by omega) (by omega) c_2
        exact g_vret (Qr := (q_t_passOn_f T fa R u0 a0 r0 tp ty tc an am al ao au a1 a2 a3 a4 a5 a6 a7 a8 a9 a10 af1 af2 af3 af4 af5 af6 af7 af8 af9 af10 rh rz r1 rs rf)) hC V ⟨(Nat.le_of_ble_eq_true rfl), (Nat.le_of_ble_eq_true rfl)⟩ ⟨v1, v2, v3, mv, uv, ga, gb, gc, gd, rfl, rfl, (hv1.trans (congrArg (fun q : Nat × Int32 => nI (q.1 / 2)) (hE.trans (te_e (by omega)))).symm), (hv2.trans (congrArg Prod.snd (hE.trans (te_e (by omega)))).symm), (hv3.trans (congrArg (fun q : Nat × Int32 => tlC an fa R q.1) (hE.trans (te_e (by omega)))).symm), (huv.trans (congrArg (fun q : Nat × Int32 => au + tlB an fa R q.1) (hE.trans (te_e (by omega)))).symm), (by rw [(hE.trans (te_e (by omega)))]; exact hSR)⟩ dX6_passOn_90
      · skip
        have c_2 := b_nle (by omega) (by omega) c_2
        refine lv_aload_n hx hb dX6_passOn_25 rfl (lv_at hl 1 rfl) ?_
        refine lv_aload_n hx hb dX6_passOn_26 rfl (lv_at hl 2 rfl) ?_
        refine lv_aload_n hx hb dX6_passOn_27 rfl (lv_at hl 3 rfl) ?_
        refine lv_iload_n hx hb dX6_passOn_28 rfl (lv_at hl 0 rfl) ?_
        refine g_callSU (nA := 3) hC V hl.1 (t_whyNot_f l D T (tlI an fa R k) R a0 r0 k an mv al ao uv a1 a2 a3 a4 a5 a6 a7 a8 a9 a10 rh rz r1 rs rf (by first | assumption | omega) (by first | assumption | omega) (by first | assumption | omega) h_r hSR.2.1 hmb) w_508 w_509 w_5 w_510 (by decide +kernel) rfl ⟨(Nat.le_of_ble_eq_true rfl), (Nat.le_of_ble_eq_true rfl)⟩ [1, 12, 13] rfl rfl (Nat.le_of_ble_eq_true rfl) dX6_passOn_29 ⟨(Nat.le_of_ble_eq_true rfl), (Nat.le_of_ble_eq_true rfl)⟩ rfl (fun r w1 H locs hQ V => ?_)
        rcases hQ with ⟨rfl, rfl, f_3, f_4⟩ | ⟨z_5, rfl, rfl, f_6, f_7⟩
        · have V : gW D T A s [(u0, .inr (6, [.int v1, .int v2, .int v3])), (a0, .inr (5, [.int (nI an), .int mv, .int al, .int ao, .int uv, .ref a1, .ref a2, .ref a3, .ref a4, .ref a5, .ref a6, .ref a7, .ref a8, .ref a9, .ref a10])), (a1, .inl (T 0, 10, .inl af1)), (a2, .inl (T 0, 10, .inl af2)), (a3, .inl (T 0, 10, .inl ga)), (a4, .inl (T 0, 10, .inl af4)), (a5, .inl (T 0, 10, .inl af5)), (a6, .inl (T 0, 10, .inl af6)), (a7, .inl (T 0, 10, .inl gb)), (a8, .inl (T 0, 10, .inl gc)), (a9, .inl (T 0, 10, .inl af9)), (a10, .inl (T 0, 10, .inl gd)), (r0, .inr (1, [.int rh, .int (nI rz), .ref r1, .int (nI rs)])), (r1, .inl (T 1, 40, .inr (.inl rf)))] H locs := V _ [1, 10, 0] rfl rfl rfl (by decide +kernel) rfl
          show W p l e _ s m args below meth c H locs _ _ _ (F0 m 32 ls [.int (nI 0), .ref u0])
          have hw0 := f_4
          refine g_put hC V (ci := 6) uwX6 tyX6 tyX6_ok nmX6 0 rfl rfl 1 (by decide) w_166 rfl rfl rfl rfl (Nat.le_of_ble_eq_true rfl) (ws' := [(u0, .inr (6, [.int v1, .int (nI 0), .int v3])), (a0, .inr (5, [.int (nI an), .int mv, .int al, .int ao, .int uv, .ref a1, .ref a2, .ref a3, .ref a4, .ref a5, .ref a6, .ref a7, .ref a8, .ref a9, .ref a10])), (a1, .inl (T 0, 10, .inl af1)), (a2, .inl (T 0, 10, .inl af2)), (a3, .inl (T 0, 10, .inl ga)), (a4, .inl (T 0, 10, .inl af4)), (a5, .inl (T 0, 10, .inl af5)), (a6, .inl (T 0, 10, .inl af6)), (a7, .inl (T 0, 10, .inl gb)), (a8, .inl (T 0, 10, .inl gc)), (a9, .inl (T 0, 10, .inl af9)), (a10, .inl (T 0, 10, .inl gd)), (r0, .inr (1, [.int rh, .int (nI rz), .ref r1, .int (nI rs)])), (r1, .inl (T 1, 40, .inr (.inl rf)))]) rfl dX6_passOn_32 (fun H locs V => ?_)
          refine lv_aload_n hx hb dX6_passOn_35 rfl (lv_at hl 1 rfl) ?_
          refine g_get hC V (ci := 6) uwX6 0 rfl rfl 1 (by decide) w_166 rfl rfl dX6_passOn_36 ?_
          refine lv_if_eq (tgt := 43) hx hb dX6_passOn_39 (by decide) (fun _ => ?_) (fun c => absurd (show (nI 0) = 0 by decide +kernel) c)
          refine lv_aload_n hx hb dX6_passOn_43 rfl (lv_at hl 1 rfl) ?_
          refine lv_dup hx hb dX6_passOn_44 rfl ?_
          refine g_get hC V (ci := 6) uwX6 0 rfl rfl 2 (by decide) w_168 rfl rfl dX6_passOn_45 ?_
          refine lv_aload_n hx hb dX6_passOn_48 rfl (lv_at hl 2 rfl) ?_
          refine lv_aload_n hx hb dX6_passOn_49 rfl (lv_at hl 3 rfl) ?_
          refine g_get hC V (ci := 1) uwX1 12 rfl rfl 2 (by decide) w_235 rfl rfl dX6_passOn_50 ?_
          refine lv_iload_n hx hb dX6_passOn_53 rfl (lv_at hl 0 rfl) ?_
          refine g_lald hC V 13 rfl (vp_in_nI (by omega) (by omega)) (v := (rf k)) (congrArg _ (nI_clamp (by omega))) dX6_passOn_54 ?_
          refine lv_l2i hx hb dX6_passOn_55 rfl ?_
          refine lv_aload_n hx hb dX6_passOn_56 rfl (lv_at hl 3 rfl) ?_
          refine g_get hC V (ci := 1) uwX1 12 rfl rfl 2 (by decide) w_235 rfl rfl dX6_passOn_57 ?_
          refine lv_iload_n hx hb dX6_passOn_60 rfl (lv_at hl 0 rfl) ?_
          refine lv_iconst (v := (nI 1)) hx hb dX6_passOn_61 (by decide +kernel) ?_
          refine lv_iadd hx hb dX6_passOn_62 ?_
          refine g_vi (y := (nI (k + 1))) (nI_add _ _) ?_
          refine g_lald hC V 13 rfl (vp_in_nI (by omega) (by omega)) (v := (rf (k + 1))) (congrArg _ (nI_clamp (by omega))) dX6_passOn_63 ?_
          refine lv_l2i hx hb dX6_passOn_64 rfl ?_
          refine lv_iconst (v := (-1)) hx hb dX6_passOn_65 (by decide +kernel) ?_
          refine lv_iconst (v := (nI 0)) hx hb dX6_passOn_66 (by decide +kernel) ?_
          refine g_callVU (nA := 4) hC V hl.1 (s_pass_f l D T (tlI an fa R k) a0 ((rf k).toInt32) ((rf (k + 1)).toInt32) (-1) (nI 0) an mv al ao uv a1 a2 a3 a4 a5 a6 a7 a8 a9 a10 af1 af2 ga af4 af5 af6 gb gc af9 gd h_n h_t (fun i hi => (hSR.2.2.2.2 i hi).1) (fun i hi => (hSR.2.2.2.2 i hi).2.1) (fun i hi => (hSR.2.2.2.2 i hi).2.2.1) (fun i hi => (hSR.2.2.2.2 i hi).2.2.2.1) (fun i hi => (hSR.2.2.2.2 i hi).2.2.2.2.1) (fun i hi => (hSR.2.2.2.2 i hi).2.2.2.2.2.1) (fun i hi => (hSR.2.2.2.2 i hi).2.2.2.2.2.2.1) (fun i hi => (hSR.2.2.2.2 i hi).2.2.2.2.2.2.2) hSR.2.2.1.symm (tlI_mi h_a _)) w_515 w_467 w_468 w_3 w_469 (by decide +kernel) rfl ⟨(Nat.le_of_ble_eq_true rfl), (Nat.le_of_ble_eq_true rfl)⟩ 1 (ci := 5) rfl rfl [1, 2, 3, 4, 5, 6, 7, 8, 9, 10, 11] rfl rfl (Nat.le_of_ble_eq_true rfl) dX6_passOn_67 ⟨(Nat.le_of_ble_eq_true rfl), (Nat.le_of_ble_eq_true rfl)⟩ rfl (fun r w1 H locs hQ V => ?_)
          obtain ⟨z_8, u_9, g3_10, g7_11, g8_12, g10_13, rfl, rfl, f_14, f_15, f_16, f_17⟩ := hQ
          have V : gW D T A s [(u0, .inr (6, [.int v1, .int (nI 0), .int v3])), (a0, .inr (5, [.int (nI an), .int (mv + (nI 1)), .int al, .int ao, .int u_9, .ref a1, .ref a2, .ref a3, .ref a4, .ref a5, .ref a6, .ref a7, .ref a8, .ref a9, .ref a10])), (a1, .inl (T 0, 10, .inl af1)), (a2, .inl (T 0, 10, .inl af2)), (a3, .inl (T 0, 10, .inl g3_10)), (a4, .inl (T 0, 10, .inl af4)), (a5, .inl (T 0, 10, .inl af5)), (a6, .inl (T 0, 10, .inl af6)), (a7, .inl (T 0, 10, .inl g7_11)), (a8, .inl (T 0, 10, .inl g8_12)), (a9, .inl (T 0, 10, .inl af9)), (a10, .inl (T 0, 10, .inl g10_13)), (r0, .inr (1, [.int rh, .int (nI rz), .ref r1, .int (nI rs)])), (r1, .inl (T 1, 40, .inr (.inl rf)))] H locs := V _ [1, 0, 0, 0, 0, 0, 0, 0, 0, 0, 0] rfl rfl rfl (by decide +kernel) rfl
          show W p l e _ s m args below meth c H locs _ _ _ (F0 m 70 ls [.int z_8, .int v3, .ref u0])
          refine lv_iadd hx hb dX6_passOn_70 ?_
          refine g_put hC V (ci := 6) uwX6 tyX6 tyX6_ok nmX6 0 rfl rfl 2 (by decide) w_168 rfl rfl rfl rfl (Nat.le_of_ble_eq_true rfl) (ws' := [(u0, .inr (6, [.int v1, .int (nI 0), .int (v3 + z_8)])), (a0, .inr (5, [.int (nI an), .int (mv + (nI 1)), .int al, .int ao, .int u_9, .ref a1, .ref a2, .ref a3, .ref a4, .ref a5, .ref a6, .ref a7, .ref a8, .ref a9, .ref a10])), (a1, .inl (T 0, 10, .inl af1)), (a2, .inl (T 0, 10, .inl af2)), (a3, .inl (T 0, 10, .inl g3_10)), (a4, .inl (T 0, 10, .inl af4)), (a5, .inl (T 0, 10, .inl af5)), (a6, .inl (T 0, 10, .inl af6)), (a7, .inl (T 0, 10, .inl g7_11)), (a8, .inl (T 0, 10, .inl g8_12)), (a9, .inl (T 0, 10, .inl af9)), (a10, .inl (T 0, 10, .inl g10_13)), (r0, .inr (1, [.int rh, .int (nI rz), .ref r1, .int (nI rs)])), (r1, .inl (T 1, 40, .inr (.inl rf)))]) rfl dX6_passOn_71 (fun H locs V => ?_)
          refine lv_aload_n hx hb dX6_passOn_74 rfl (lv_at hl 1 rfl) ?_
          refine lv_dup hx hb dX6_passOn_75 rfl ?_
          refine g_get hC V (ci := 6) uwX6 0 rfl rfl 0 (by decide) w_164 rfl rfl dX6_passOn_76 ?_
          refine lv_iconst (v := (nI 1)) hx hb dX6_passOn_79 (by decide +kernel) ?_
          refine lv_iadd hx hb dX6_passOn_80 ?_
          refine g_put hC V (ci := 6) uwX6 tyX6 tyX6_ok nmX6 0 rfl rfl 0 (by decide) w_164 rfl rfl rfl rfl (Nat.le_of_ble_eq_true rfl) (ws' := [(u0, .inr (6, [.int (v1 + (nI 1)), .int (nI 0), .int (v3 + z_8)])), (a0, .inr (5, [.int (nI an), .int (mv + (nI 1)), .int al, .int ao, .int u_9, .ref a1, .ref a2, .ref a3, .ref a4, .ref a5, .ref a6, .ref a7, .ref a8, .ref a9, .ref a10])), (a1, .inl (T 0, 10, .inl af1)), (a2, .inl (T 0, 10, .inl af2)), (a3, .inl (T 0, 10, .inl g3_10)), (a4, .inl (T 0, 10, .inl af4)), (a5, .inl (T 0, 10, .inl af5)), (a6, .inl (T 0, 10, .inl af6)), (a7, .inl (T 0, 10, .inl g7_11)), (a8, .inl (T 0, 10, .inl g8_12)), (a9, .inl (T 0, 10, .inl af9)), (a10, .inl (T 0, 10, .inl g10_13)), (r0, .inr (1, [.int rh, .int (nI rz), .ref r1, .int (nI rs)])), (r1, .inl (T 1, 40, .inr (.inl rf)))]) rfl dX6_passOn_81 (fun H locs V => ?_)
          refine lv_iinc (v := (nI (k + 2))) (lv' := [(3, .int (nI (k + 2))), (0, .ref u0), (1, .ref a0), (2, .ref r0)]) hx hb dX6_passOn_84 hl (k := 0) rfl (nI_add _ 2) (by decide) rfl (fun ls hl => ?_)
          refine lv_goto (tgt := 17) hx hb dX6_passOn_87 (by decide) ?_
          exact ih_17 (k + 2) (v1 + (nI 1)) (nI 0) (v3 + z_8) (mv + (nI 1)) u_9 g3_10 g7_11 g8_12 g10_13 (by omega) (by rw [hv1]; exact (nI_add _ 1).trans (congrArg nI (by omega))) rfl (by have q := f_14; rw [h_r (k + 1) (by omega)] at q; rw [hv3, q]; rfl) (by have q := f_17; rw [h_r k (by omega), h_r (k + 1) (by omega), huv] at q; rw [q]; exact Int32.add_assoc _ _ _) (by have q := SR_go h_n hSR f_15 f_16; rw [h_r k (by omega), h_r (k + 1) (by omega)] at q; exact q) (mn_go hmb (wl_9 hw0)) (hE.trans (te_s (by omega) h_z hw0)) (by omega) _ _ _ V (lv_sub hl [0, 1, 2, 3] rfl)
        · have V : gW D T A s [(u0, .inr (6, [.int v1, .int v2, .int v3])), (a0, .inr (5, [.int (nI an), .int mv, .int al, .int ao, .int uv, .ref a1, .ref a2, .ref a3, .ref a4, .ref a5, .ref a6, .ref a7, .ref a8, .ref a9, .ref a10])), (a1, .inl (T 0, 10, .inl af1)), (a2, .inl (T 0, 10, .inl af2)), (a3, .inl (T 0, 10, .inl ga)), (a4, .inl (T 0, 10, .inl af4)), (a5, .inl (T 0, 10, .inl af5)), (a6, .inl (T 0, 10, .inl af6)), (a7, .inl (T 0, 10, .inl gb)), (a8, .inl (T 0, 10, .inl gc)), (a9, .inl (T 0, 10, .inl af9)), (a10, .inl (T 0, 10, .inl gd)), (r0, .inr (1, [.int rh, .int (nI rz), .ref r1, .int (nI rs)])), (r1, .inl (T 1, 40, .inr (.inl rf)))] H locs := V _ [1, 10, 0] rfl rfl rfl (by decide +kernel) rfl
          show W p l e _ s m args below meth c H locs _ _ _ (F0 m 32 ls [.int z_5, .ref u0])
          have hw1 := f_7
          have hw2 := f_6
          refine g_put hC V (ci := 6) uwX6 tyX6 tyX6_ok nmX6 0 rfl rfl 1 (by decide) w_166 rfl rfl rfl rfl (Nat.le_of_ble_eq_true rfl) (ws' := [(u0, .inr (6, [.int v1, .int z_5, .int v3])), (a0, .inr (5, [.int (nI an), .int mv, .int al, .int ao, .int uv, .ref a1, .ref a2, .ref a3, .ref a4, .ref a5, .ref a6, .ref a7, .ref a8, .ref a9, .ref a10])), (a1, .inl (T 0, 10, .inl af1)), (a2, .inl (T 0, 10, .inl af2)), (a3, .inl (T 0, 10, .inl ga)), (a4, .inl (T 0, 10, .inl af4)), (a5, .inl (T 0, 10, .inl af5)), (a6, .inl (T 0, 10, .inl af6)), (a7, .inl (T 0, 10, .inl gb)), (a8, .inl (T 0, 10, .inl gc)), (a9, .inl (T 0, 10, .inl af9)), (a10, .inl (T 0, 10, .inl gd)), (r0, .inr (1, [.int rh, .int (nI rz), .ref r1, .int (nI rs)])), (r1, .inl (T 1, 40, .inr (.inl rf)))]) rfl dX6_passOn_32 (fun H locs V => ?_)
          refine lv_aload_n hx hb dX6_passOn_35 rfl (lv_at hl 1 rfl) ?_
          refine g_get hC V (ci := 6) uwX6 0 rfl rfl 1 (by decide) w_166 rfl rfl dX6_passOn_36 ?_
          refine lv_if_eq (tgt := 43) hx hb dX6_passOn_39 (by decide) (fun c_18 => ?_) (fun c_18 => ?_)
          · skip
            exact (absurd c_18 (by assumption) : False).elim
          · skip
            exact g_vret (Qr := (q_t_passOn_f T fa R u0 a0 r0 tp ty tc an am al ao au a1 a2 a3 a4 a5 a6 a7 a8 a9 a10 af1 af2 af3 af4 af5 af6 af7 af8 af9 af10 rh rz r1 rs rf)) hC V ⟨(Nat.le_of_ble_eq_true rfl), (Nat.le_of_ble_eq_true rfl)⟩ ⟨v1, z_5, v3, mv, uv, ga, gb, gc, gd, rfl, rfl, (hv1.trans (congrArg (fun q : Nat × Int32 => nI (q.1 / 2)) (hE.trans (te_w (by omega) h_z hw1 hw2))).symm), (congrArg Prod.snd (hE.trans (te_w (by omega) h_z hw1 hw2))).symm, (hv3.trans (congrArg (fun q : Nat × Int32 => tlC an fa R q.1) (hE.trans (te_w (by omega) h_z hw1 hw2))).symm), (huv.trans (congrArg (fun q : Nat × Int32 => au + tlB an fa R q.1) (hE.trans (te_w (by omega) h_z hw1 hw2))).symm), (by rw [(hE.trans (te_w (by omega) h_z hw1 hw2))]; exact hSR)⟩ dX6_passOn_42
  exact L_1 _ 0 (nI 0) (nI 0) (nI 0) am au af3 af7 af8 af10 (by omega) rfl rfl rfl (add_n0 _) h_sr h_mn rfl (Nat.lt_succ_self _) _ _ _ V (lv_sub hl [0, 1, 2, 3] rfl)

def q_x_perform_f (T : Nat → ClassId) (fq : Nat → Int32) (fm : Nat → Int32) (fn : Nat → Int64) (fa : Nat → Int32) (o : Nat) (row : Int32) (n0 : Nat) (s0 : Nat) (im : Nat) (iz : Nat) (rw : Nat) (t0 : Nat) (u0 : Nat) (h0 : Nat) (y0 : Nat) (sv : Value) (ra0 : Nat) (rb0 : Nat) (rc0 : Nat) (rd0 : Nat) (rah : Int32) (raz : Nat) (ra1 : Nat) (ras : Nat) (raf : Nat → Int64) (rbh : Int32) (rbz : Nat) (rb1 : Nat) (rbs : Nat) (rbf : Nat → Int64) (rch : Int32) (rcz : Nat) (rc1 : Nat) (rcs : Nat) (rcf : Nat → Int64) (rdh : Int32) (rdz : Nat) (rd1 : Nat) (rds : Nat) (rdf : Nat → Int64) (tp : Int32) (ty : Int32) (tc : Int32) (nn : Nat) (nm : Int32) (nl : Int32) (no : Int32) (nu : Int32) (n1 : Nat) (n2 : Nat) (n3 : Nat) (n4 : Nat) (n5 : Nat) (n6 : Nat) (n7 : Nat) (n8 : Nat) (n9 : Nat) (n10 : Nat) (nf1 : Nat → Int32) (nf2 : Nat → Int32) (nf3 : Nat → Int32) (nf4 : Nat → Int32) (nf5 : Nat → Int32) (nf6 : Nat → Int32) (nf7 : Nat → Int32) (nf8 : Nat → Int32) (nf9 : Nat → Int32) (nf10 : Nat → Int32) : Option Value → va_W → Prop := fun rr ww => (∃ (z1 : Int32) (z2 : Int32) (z3 : Int32) (z : Int32) (mm : Int32) (uu : Int32) (g3 : Nat → Int32) (g7 : Nat → Int32) (g8 : Nat → Int32) (g10 : Nat → Int32), rr = some (.int z) ∧ ww = [(o, .inr (7, [.ref n0, .ref s0, .ref im, .ref iz, .ref rw, .ref t0, .ref u0, .ref h0, .ref y0, sv])), (rw, .inl (T 5, 4, .inr (.inr (.inr (.inr (va_up (va_up (va_up (va_up (fun _ => none) 0 (some ra0)) 1 (some rb0)) 2 (some rc0)) 3 (some rd0))))))), (ra0, .inr (1, [.int rah, .int (nI raz), .ref ra1, .int (nI ras)])), (ra1, .inl (T 1, 40, .inr (.inl raf))), (rb0, .inr (1, [.int rbh, .int (nI rbz), .ref rb1, .int (nI rbs)])), (rb1, .inl (T 1, 40, .inr (.inl rbf))), (rc0, .inr (1, [.int rch, .int (nI rcz), .ref rc1, .int (nI rcs)])), (rc1, .inl (T 1, 40, .inr (.inl rcf))), (rd0, .inr (1, [.int rdh, .int (nI rdz), .ref rd1, .int (nI rds)])), (rd1, .inl (T 1, 40, .inr (.inl rdf))), (u0, .inr (6, [.int z1, .int z2, .int z3])), (n0, .inr (5, [.int (nI nn), .int mm, .int nl, .int no, .int uu, .ref n1, .ref n2, .ref n3, .ref n4, .ref n5, .ref n6, .ref n7, .ref n8, .ref n9, .ref n10])), (n1, .inl (T 0, 10, .inl nf1)), (n2, .inl (T 0, 10, .inl nf2)), (n3, .inl (T 0, 10, .inl g3)), (n4, .inl (T 0, 10, .inl nf4)), (n5, .inl (T 0, 10, .inl nf5)), (n6, .inl (T 0, 10, .inl nf6)), (n7, .inl (T 0, 10, .inl g7)), (n8, .inl (T 0, 10, .inl g8)), (n9, .inl (T 0, 10, .inl nf9)), (n10, .inl (T 0, 10, .inl g10))] ∧ z = perA nn fa fq fm fn row ∧ SR nn mm nl no nf1 nf2 g3 nf4 nf5 nf6 g7 nf9 (perF nn fa fq fm fn row))
set_option maxHeartbeats 4000000 in
set_option maxRecDepth 100000 in
theorem x_perform_f (l : Launch) (D : va_G) (T : Nat → ClassId) (fq : Nat → Int32) (fm : Nat → Int32) (fn : Nat → Int64) (fa : Nat → Int32) (o : Nat) (row : Int32) (n0 : Nat) (s0 : Nat) (im : Nat) (iz : Nat) (rw : Nat) (t0 : Nat) (u0 : Nat) (h0 : Nat) (y0 : Nat) (sv : Value) (ra0 : Nat) (rb0 : Nat) (rc0 : Nat) (rd0 : Nat) (rah : Int32) (raz : Nat) (ra1 : Nat) (ras : Nat) (raf : Nat → Int64) (rbh : Int32) (rbz : Nat) (rb1 : Nat) (rbs : Nat) (rbf : Nat → Int64) (rch : Int32) (rcz : Nat) (rc1 : Nat) (rcs : Nat) (rcf : Nat → Int64) (rdh : Int32) (rdz : Nat) (rd1 : Nat) (rds : Nat) (rdf : Nat → Int64) (tp : Int32) (ty : Int32) (tc : Int32) (nn : Nat) (nm : Int32) (nl : Int32) (no : Int32) (nu : Int32) (n1 : Nat) (n2 : Nat) (n3 : Nat) (n4 : Nat) (n5 : Nat) (n6 : Nat) (n7 : Nat) (n8 : Nat) (n9 : Nat) (n10 : Nat) (nf1 : Nat → Int32) (nf2 : Nat → Int32) (nf3 : Nat → Int32) (nf4 : Nat → Int32) (nf5 : Nat → Int32) (nf6 : Nat → Int32) (nf7 : Nat → Int32) (nf8 : Nat → Int32) (nf9 : Nat → Int32) (nf10 : Nat → Int32) (h_n : nn ≤ 10) (h_t : ∀ i, i < nn → bd (nf9 i) nn) (h_zra : raz ≤ 40) (h_zrb : rbz ≤ 40) (h_zrc : rcz ≤ 40) (h_zrd : rdz ≤ 40) (h_sra : ras ≤ 3) (h_srb : rbs ≤ 3) (h_src : rcs ≤ 3) (h_srd : rds ≤ 3) (h_sr : SR nn nm nl no nf1 nf2 nf3 nf4 nf5 nf6 nf7 nf9 fa) (h_a : MI nn fa) (h_mn : bd (fa 1) 10000) (h_r0 : RW 0 rah raz ras raf fq fm fn) (h_r1 : RW 1 rbh rbz rbs rbf fq fm fn) (h_r2 : RW 2 rch rcz rcs rcf fq fm fn) (h_r3 : RW 3 rdh rdz rds rdf fq fm fn) : Ct l yX7_perform cX7_perform 3 (some .int) 4 0 0 D T [.ref o, .int row] [(o, .inr (7, [.ref n0, .ref s0, .ref im, .ref iz, .ref rw, .ref t0, .ref u0, .ref h0, .ref y0, sv])), (rw, .inl (T 5, 4, .inr (.inr (.inr (.inr (va_up (va_up (va_up (va_up (fun _ => none) 0 (some ra0)) 1 (some rb0)) 2 (some rc0)) 3 (some rd0))))))), (ra0, .inr (1, [.int rah, .int (nI raz), .ref ra1, .int (nI ras)])), (ra1, .inl (T 1, 40, .inr (.inl raf))), (rb0, .inr (1, [.int rbh, .int (nI rbz), .ref rb1, .int (nI rbs)])), (rb1, .inl (T 1, 40, .inr (.inl rbf))), (rc0, .inr (1, [.int rch, .int (nI rcz), .ref rc1, .int (nI rcs)])), (rc1, .inl (T 1, 40, .inr (.inl rcf))), (rd0, .inr (1, [.int rdh, .int (nI rdz), .ref rd1, .int (nI rds)])), (rd1, .inl (T 1, 40, .inr (.inl rdf))), (u0, .inr (6, [.int tp, .int ty, .int tc])), (n0, .inr (5, [.int (nI nn), .int nm, .int nl, .int no, .int nu, .ref n1, .ref n2, .ref n3, .ref n4, .ref n5, .ref n6, .ref n7, .ref n8, .ref n9, .ref n10])), (n1, .inl (T 0, 10, .inl nf1)), (n2, .inl (T 0, 10, .inl nf2)), (n3, .inl (T 0, 10, .inl nf3)), (n4, .inl (T 0, 10, .inl nf4)), (n5, .inl (T 0, 10, .inl nf5)), (n6, .inl (T 0, 10, .inl nf6)), (n7, .inl (T 0, 10, .inl nf7)), (n8, .inl (T 0, 10, .inl nf8)), (n9, .inl (T 0, 10, .inl nf9)), (n10, .inl (T 0, 10, .inl nf10))] (q_x_perform_f T fq fm fn fa o row n0 s0 im iz rw t0 u0 h0 y0 sv ra0 rb0 rc0 rd0 rah raz ra1 ras raf rbh rbz rb1 rbs rbf rch rcz rc1 rcs rcf rdh rdz rd1 rds rdf tp ty tc nn nm nl no nu n1 n2 n3 n4 n5 n6 n7 n8 n9 n10 nf1 nf2 nf3 nf4 nf5 nf6 nf7 nf8 nf9 nf10) := by
  refine Ct.of (cc := cX7_perform) (maxL := 3) (ret := (some .int)) (by decide) (Nat.le_of_ble_eq_true rfl) ?_
  intro p e s m args below meth c A ls hC hnm V hl
  obtain ⟨hx, hb, hr, hml, hown, hts, hlocks⟩ := id hC
  generalize hH : s.heap = H at V ⊢
  clear hH
  have hl : lv_has ls 3 [(0, .ref o), (1, .int row)] := hl
  generalize hlo : ([] : List Loc) = locs at V ⊢
  clear hlo
  refine lv_aload_n hx hb dX7_perform_0 rfl (lv_at hl 0 rfl) ?_
  refine lv_iload_n hx hb dX7_perform_1 rfl (lv_at hl 1 rfl) ?_
  refine g_callVU (nA := 1) hC V hl.1 (x_refusedRow l D T o row n0 s0 im iz rw t0 u0 h0 y0 sv ra0 rb0 rc0 rd0 rah raz ra1 ras raf rbh rbz rb1 rbs rbf rch rcz rc1 rcs rcf rdh rdz rd1 rds rdf) w_524 w_526 w_s11 w_2 w_527 (by decide +kernel) rfl ⟨(Nat.le_of_ble_eq_true rfl), (Nat.le_of_ble_eq_true rfl)⟩ 0 (ci := 7) rfl rfl [0, 1, 2, 3, 4, 5, 6, 7, 8, 9] rfl rfl (Nat.le_of_ble_eq_true rfl) dX7_perform_2 ⟨(Nat.le_of_ble_eq_true rfl), (Nat.le_of_ble_eq_true rfl)⟩ rfl (fun r w1 H locs hQ V => ?_)
  rcases hQ with ⟨rfl, rfl, f_1, f_2, f_3, f_4, f_5, f_6⟩ | ⟨z_7, rfl, rfl, f_8, f_9⟩
  · have V : gW D T A s [(o, .inr (7, [.ref n0, .ref s0, .ref im, .ref iz, .ref rw, .ref t0, .ref u0, .ref h0, .ref y0, sv])), (rw, .inl (T 5, 4, .inr (.inr (.inr (.inr (va_up (va_up (va_up (va_up (fun _ => none) 0 (some ra0)) 1 (some rb0)) 2 (some rc0)) 3 (some rd0))))))), (ra0, .inr (1, [.int rah, .int (nI raz), .ref ra1, .int (nI ras)])), (ra1, .inl (T 1, 40, .inr (.inl raf))), (rb0, .inr (1, [.int rbh, .int (nI rbz), .ref rb1, .int (nI rbs)])), (rb1, .inl (T 1, 40, .inr (.inl rbf))), (rc0, .inr (1, [.int rch, .int (nI rcz), .ref rc1, .int (nI rcs)])), (rc1, .inl (T 1, 40, .inr (.inl rcf))), (rd0, .inr (1, [.int rdh, .int (nI rdz), .ref rd1, .int (nI rds)])), (rd1, .inl (T 1, 40, .inr (.inl rdf))), (u0, .inr (6, [.int tp, .int ty, .int tc])), (n0, .inr (5, [.int (nI nn), .int nm, .int nl, .int no, .int nu, .ref n1, .ref n2, .ref n3, .ref n4, .ref n5, .ref n6, .ref n7, .ref n8, .ref n9, .ref n10])), (n1, .inl (T 0, 10, .inl nf1)), (n2, .inl (T 0, 10, .inl nf2)), (n3, .inl (T 0, 10, .inl nf3)), (n4, .inl (T 0, 10, .inl nf4)), (n5, .inl (T 0, 10, .inl nf5)), (n6, .inl (T 0, 10, .inl nf6)), (n7, .inl (T 0, 10, .inl nf7)), (n8, .inl (T 0, 10, .inl nf8)), (n9, .inl (T 0, 10, .inl nf9)), (n10, .inl (T 0, 10, .inl nf10))] H locs := V _ [0, 0, 0, 0, 0, 0, 0, 0, 0, 0] rfl rfl rfl (by decide +kernel) rfl
    show W p l e _ s m args below meth c H locs _ _ _ (F0 m 5 ls [.int (nI 0)])
    obtain ⟨j_10, hj_10, ej_10⟩ := g_idx (n := 4) (by decide) f_1 f_2
    rw [ej_10] at hl
    have hj_10 : j_10 = 0 ∨ j_10 = 1 ∨ j_10 = 2 ∨ j_10 = 3 := by omega
    rcases hj_10 with rfl | rfl | rfl | rfl
    · have hRk := RW_y h_r0 (f_3 ej_10)
      refine lv_istore_n (lv' := [(2, .int (nI 0)), (0, .ref o), (1, .int (nI 0))]) hx hb dX7_perform_5 rfl hl (by decide) rfl (fun ls hl => ?_)
      refine lv_iload_n hx hb dX7_perform_6 rfl (lv_at hl 0 rfl) ?_
      refine lv_if_eq (tgt := 12) hx hb dX7_perform_7 (by decide) (fun _ => ?_) (fun c => absurd (show (nI 0) = 0 by decide +kernel) c)
      refine lv_aload_n hx hb dX7_perform_12 rfl (lv_at hl 1 rfl) ?_
      refine g_get hC V (ci := 7) uwX7 0 rfl rfl 6 (by decide) w_255 rfl rfl dX7_perform_13 ?_
      refine lv_aload_n hx hb dX7_perform_16 rfl (lv_at hl 1 rfl) ?_
      refine g_get hC V (ci := 7) uwX7 0 rfl rfl 0 (by decide) w_249 rfl rfl dX7_perform_17 ?_
      refine lv_aload_n hx hb dX7_perform_20 rfl (lv_at hl 1 rfl) ?_
      refine g_get hC V (ci := 7) uwX7 0 rfl rfl 4 (by decide) w_253 rfl rfl dX7_perform_21 ?_
      refine lv_iload_n hx hb dX7_perform_24 rfl (lv_at hl 2 rfl) ?_
      refine g_aald hC V 1 5 rfl rfl (vp_in_nI (by decide) (by decide)) (v := .ref ra0) (by rw [nI_clamp (by decide)]; rfl) dX7_perform_25 ?_
      refine g_callVU (nA := 2) hC V hl.1 (t_passOn_f l D T fa (fun i => fn (40 * 0 + i)) u0 n0 ra0 tp ty tc nn nm nl no nu n1 n2 n3 n4 n5 n6 n7 n8 n9 n10 nf1 nf2 nf3 nf4 nf5 nf6 nf7 nf8 nf9 nf10 rah raz ra1 ras raf (by first | assumption | omega) (by first | assumption | omega) (by first | assumption | omega) (by first | assumption | omega) (by first | assumption | omega) (by first | assumption | omega) hRk.2.2) w_504 w_505 w_506 w_5 w_507 (by decide +kernel) rfl ⟨(Nat.le_of_ble_eq_true rfl), (Nat.le_of_ble_eq_true rfl)⟩ 10 (ci := 6) rfl rfl [10, 11, 12, 13, 14, 15, 16, 17, 18, 19, 20, 21, 2, 3] rfl rfl (Nat.le_of_ble_eq_true rfl) dX7_perform_26 ⟨(Nat.le_of_ble_eq_true rfl), (Nat.le_of_ble_eq_true rfl)⟩ rfl (fun r w1 H locs hQ V => ?_)
      obtain ⟨z1_11, z2_12, z3_13, mm_14, uu_15, g3_16, g7_17, g8_18, g10_19, rfl, rfl, f_20, f_21, f_22, f_23, f_24⟩ := hQ
      have V : gW D T A s [(o, .inr (7, [.ref n0, .ref s0, .ref im, .ref iz, .ref rw, .ref t0, .ref u0, .ref h0, .ref y0, sv])), (rw, .inl (T 5, 4, .inr (.inr (.inr (.inr (va_up (va_up (va_up (va_up (fun _ => none) 0 (some ra0)) 1 (some rb0)) 2 (some rc0)) 3 (some rd0))))))), (ra0, .inr (1, [.int rah, .int (nI raz), .ref ra1, .int (nI ras)])), (ra1, .inl (T 1, 40, .inr (.inl raf))), (rb0, .inr (1, [.int rbh, .int (nI rbz), .ref rb1, .int (nI rbs)])), (rb1, .inl (T 1, 40, .inr (.inl rbf))), (rc0, .inr (1, [.int rch, .int (nI rcz), .ref rc1, .int (nI rcs)])), (rc1, .inl (T 1, 40, .inr (.inl rcf))), (rd0, .inr (1, [.int rdh, .int (nI rdz), .ref rd1, .int (nI rds)])), (rd1, .inl (T 1, 40, .inr (.inl rdf))), (u0, .inr (6, [.int z1_11, .int z2_12, .int z3_13])), (n0, .inr (5, [.int (nI nn), .int mm_14, .int nl, .int no, .int uu_15, .ref n1, .ref n2, .ref n3, .ref n4, .ref n5, .ref n6, .ref n7, .ref n8, .ref n9, .ref n10])), (n1, .inl (T 0, 10, .inl nf1)), (n2, .inl (T 0, 10, .inl nf2)), (n3, .inl (T 0, 10, .inl g3_16)), (n4, .inl (T 0, 10, .inl nf4)), (n5, .inl (T 0, 10, .inl nf5)), (n6, .inl (T 0, 10, .inl nf6)), (n7, .inl (T 0, 10, .inl g7_17)), (n8, .inl (T 0, 10, .inl g8_18)), (n9, .inl (T 0, 10, .inl nf9)), (n10, .inl (T 0, 10, .inl g10_19))] H locs := V _ [2, 0, 6, 0, 0, 0, 0, 0, 0, 0, 0, 0, 0, 0] rfl rfl rfl (by decide +kernel) rfl
      show W p l e _ s m args below meth c H locs _ _ _ (F0 m 29 ls [])
      refine lv_aload_n hx hb dX7_perform_29 rfl (lv_at hl 1 rfl) ?_
      refine g_get hC V (ci := 7) uwX7 0 rfl rfl 6 (by decide) w_255 rfl rfl dX7_perform_30 ?_
      refine g_get hC V (ci := 6) uwX6 10 rfl rfl 0 (by decide) w_165 rfl rfl dX7_perform_33 ?_
      exact g_iret (Qr := (q_x_perform_f T fq fm fn fa o row n0 s0 im iz rw t0 u0 h0 y0 sv ra0 rb0 rc0 rd0 rah raz ra1 ras raf rbh rbz rb1 rbs rbf rch rcz rc1 rcs rcf rdh rdz rd1 rds rdf tp ty tc nn nm nl no nu n1 n2 n3 n4 n5 n6 n7 n8 n9 n10 nf1 nf2 nf3 nf4 nf5 nf6 nf7 nf8 nf9 nf10)) hC V ⟨(Nat.le_of_ble_eq_true rfl), (Nat.le_of_ble_eq_true rfl)⟩ ⟨z1_11, z2_12, z3_13, z1_11, mm_14, uu_15, g3_16, g7_17, g8_18, g10_19, rfl, rfl, (f_20.trans (per_y (n := nn) (f := fa) (fn := fn) (rr_s ej_10 (by decide) hRk.1 (by omega)) ej_10 (by decide) hRk.2.1 (by omega)).1), (by rw [← (per_y (n := nn) (f := fa) (fn := fn) (rr_s ej_10 (by decide) hRk.1 (by omega)) ej_10 (by decide) hRk.2.1 (by omega)).2]; exact f_24)⟩ dX7_perform_36
    · have hRk := RW_y h_r1 (f_4 ej_10)
      refine lv_istore_n (lv' := [(2, .int (nI 0)), (0, .ref o), (1, .int (nI 1))]) hx hb dX7_perform_5 rfl hl (by decide) rfl (fun ls hl => ?_)
      refine lv_iload_n hx hb dX7_perform_6 rfl (lv_at hl 0 rfl) ?_
      refine lv_if_eq (tgt := 12) hx hb dX7_perform_7 (by decide) (fun _ => ?_) (fun c => absurd (show (nI 0) = 0 by decide +kernel) c)
      refine lv_aload_n hx hb dX7_perform_12 rfl (lv_at hl 1 rfl) ?_
      refine g_get hC V (ci := 7) uwX7 0 rfl rfl 6 (by decide) w_255 rfl rfl dX7_perform_13 ?_
      refine lv_aload_n hx hb dX7_perform_16 rfl (lv_at hl 1 rfl) ?_
      refine g_get hC V (ci := 7) uwX7 0 rfl rfl 0 (by decide) w_249 rfl rfl dX7_perform_17 ?_
      refine lv_aload_n hx hb dX7_perform_20 rfl (lv_at hl 1 rfl) ?_
      refine g_get hC V (ci := 7) uwX7 0 rfl rfl 4 (by decide) w_253 rfl rfl dX7_perform_21 ?_
      refine lv_iload_n hx hb dX7_perform_24 rfl (lv_at hl 2 rfl) ?_
      refine g_aald hC V 1 5 rfl rfl (vp_in_nI (by decide) (by decide)) (v := .ref rb0) (by rw [nI_clamp (by decide)]; rfl) dX7_perform_25 ?_
      refine g_callVU (nA := 2) hC V hl.1 (t_passOn_f l D T fa (fun i => fn (40 * 1 + i)) u0 n0 rb0 tp ty tc nn nm nl no nu n1 n2 n3 n4 n5 n6 n7 n8 n9 n10 nf1 nf2 nf3 nf4 nf5 nf6 nf7 nf8 nf9 nf10 rbh rbz rb1 rbs rbf (by first | assumption | omega) (by first | assumption | omega) (by first | assumption | omega) (by first | assumption | omega) (by first | assumption | omega) (by first | assumption | omega) hRk.2.2) w_504 w_505 w_506 w_5 w_507 (by decide +kernel) rfl ⟨(Nat.le_of_ble_eq_true rfl), (Nat.le_of_ble_eq_true rfl)⟩ 10 (ci := 6) rfl rfl [10, 11, 12, 13, 14, 15, 16, 17, 18, 19, 20, 21, 4, 5] rfl rfl (Nat.le_of_ble_eq_true rfl) dX7_perform_26 ⟨(Nat.le_of_ble_eq_true rfl), (Nat.le_of_ble_eq_true rfl)⟩ rfl (fun r w1 H locs hQ V => ?_)
      obtain ⟨z1_25, z2_26, z3_27, mm_28, uu_29, g3_30, g7_31, g8_32, g10_33, rfl, rfl, f_34, f_35, f_36, f_37, f_38⟩ := hQ
      have V : gW D T A s [(o, .inr (7, [.ref n0, .ref s0, .ref im, .ref iz, .ref rw, .ref t0, .ref u0, .ref h0, .ref y0, sv])), (rw, .inl (T 5, 4, .inr (.inr (.inr (.inr (va_up (va_up (va_up (va_up (fun _ => none) 0 (some ra0)) 1 (some rb0)) 2 (some rc0)) 3 (some rd0))))))), (ra0, .inr (1, [.int rah, .int (nI raz), .ref ra1, .int (nI ras)])), (ra1, .inl (T 1, 40, .inr (.inl raf))), (rb0, .inr (1, [.int rbh, .int (nI rbz), .ref rb1, .int (nI rbs)])), (rb1, .inl (T 1, 40, .inr (.inl rbf))), (rc0, .inr (1, [.int rch, .int (nI rcz), .ref rc1, .int (nI rcs)])), (rc1, .inl (T 1, 40, .inr (.inl rcf))), (rd0, .inr (1, [.int rdh, .int (nI rdz), .ref rd1, .int (nI rds)])), (rd1, .inl (T 1, 40, .inr (.inl rdf))), (u0, .inr (6, [.int z1_25, .int z2_26, .int z3_27])), (n0, .inr (5, [.int (nI nn), .int mm_28, .int nl, .int no, .int uu_29, .ref n1, .ref n2, .ref n3, .ref n4, .ref n5, .ref n6, .ref n7, .ref n8, .ref n9, .ref n10])), (n1, .inl (T 0, 10, .inl nf1)), (n2, .inl (T 0, 10, .inl nf2)), (n3, .inl (T 0, 10, .inl g3_30)), (n4, .inl (T 0, 10, .inl nf4)), (n5, .inl (T 0, 10, .inl nf5)), (n6, .inl (T 0, 10, .inl nf6)), (n7, .inl (T 0, 10, .inl g7_31)), (n8, .inl (T 0, 10, .inl g8_32)), (n9, .inl (T 0, 10, .inl nf9)), (n10, .inl (T 0, 10, .inl g10_33))] H locs := V _ [4, 0, 4, 0, 0, 0, 0, 0, 0, 0, 0, 0, 0, 0] rfl rfl rfl (by decide +kernel) rfl
      show W p l e _ s m args below meth c H locs _ _ _ (F0 m 29 ls [])
      refine lv_aload_n hx hb dX7_perform_29 rfl (lv_at hl 1 rfl) ?_
      refine g_get hC V (ci := 7) uwX7 0 rfl rfl 6 (by decide) w_255 rfl rfl dX7_perform_30 ?_
      refine g_get hC V (ci := 6) uwX6 10 rfl rfl 0 (by decide) w_165 rfl rfl dX7_perform_33 ?_
      exact g_iret (Qr := (q_x_perform_f T fq fm fn fa o row n0 s0 im iz rw t0 u0 h0 y0 sv ra0 rb0 rc0 rd0 rah raz ra1 ras raf rbh rbz rb1 rbs rbf rch rcz rc1 rcs rcf rdh rdz rd1 rds rdf tp ty tc nn nm nl no nu n1 n2 n3 n4 n5 n6 n7 n8 n9 n10 nf1 nf2 nf3 nf4 nf5 nf6 nf7 nf8 nf9 nf10)) hC V ⟨(Nat.le_of_ble_eq_true rfl), (Nat.le_of_ble_eq_true rfl)⟩ ⟨z1_25, z2_26, z3_27, z1_25, mm_28, uu_29, g3_30, g7_31, g8_32, g10_33, rfl, rfl, (f_34.trans (per_y (n := nn) (f := fa) (fn := fn) (rr_s ej_10 (by decide) hRk.1 (by omega)) ej_10 (by decide) hRk.2.1 (by omega)).1), (by rw [← (per_y (n := nn) (f := fa) (fn := fn) (rr_s ej_10 (by decide) hRk.1 (by omega)) ej_10 (by decide) hRk.2.1 (by omega)).2]; exact f_38)⟩ dX7_perform_36
    · have hRk := RW_y h_r2 (f_5 ej_10)
      refine lv_istore_n (lv' := [(2, .int (nI 0)), (0, .ref o), (1, .int (nI 2))]) hx hb dX7_perform_5 rfl hl (by decide) rfl (fun ls hl => ?_)
      refine lv_iload_n hx hb dX7_perform_6 rfl (lv_at hl 0 rfl) ?_
      refine lv_if_eq (tgt := 12) hx hb dX7_perform_7 (by decide) (fun _ => ?_) (fun c => absurd (show (nI 0) = 0 by decide +kernel) c)
      refine lv_aload_n hx hb dX7_perform_12 rfl (lv_at hl 1 rfl) ?_
      refine g_get hC V (ci := 7) uwX7 0 rfl rfl 6 (by decide) w_255 rfl rfl dX7_perform_13 ?_
      refine lv_aload_n hx hb dX7_perform_16 rfl (lv_at hl 1 rfl) ?_
      refine g_get hC V (ci := 7) uwX7 0 rfl rfl 0 (by decide) w_249 rfl rfl dX7_perform_17 ?_
      refine lv_aload_n hx hb dX7_perform_20 rfl (lv_at hl 1 rfl) ?_
      refine g_get hC V (ci := 7) uwX7 0 rfl rfl 4 (by decide) w_253 rfl rfl dX7_perform_21 ?_
      refine lv_iload_n hx hb dX7_perform_24 rfl (lv_at hl 2 rfl) ?_
      refine g_aald hC V 1 5 rfl rfl (vp_in_nI (by decide) (by decide)) (v := .ref rc0) (by rw [nI_clamp (by decide)]; rfl) dX7_perform_25 ?_
      refine g_callVU (nA := 2) hC V hl.1 (t_passOn_f l D T fa (fun i => fn (40 * 2 + i)) u0 n0 rc0 tp ty tc nn nm nl no nu n1 n2 n3 n4 n5 n6 n7 n8 n9 n10 nf1 nf2 nf3 nf4 nf5 nf6 nf7 nf8 nf9 nf10 rch rcz rc1 rcs rcf (by first | assumption | omega) (by first | assumption | omega) (by first | assumption | omega) (by first | assumption | omega) (by first | assumption | omega) (by first | assumption | omega) hRk.2.2) w_504 w_505 w_506 w_5 w_507 (by decide +kernel) rfl ⟨(Nat.le_of_ble_eq_true rfl), (Nat.le_of_ble_eq_true rfl)⟩ 10 (ci := 6) rfl rfl [10, 11, 12, 13, 14, 15, 16, 17, 18, 19, 20, 21, 6, 7] rfl rfl (Nat.le_of_ble_eq_true rfl) dX7_perform_26 ⟨(Nat.le_of_ble_eq_true rfl), (Nat.le_of_ble_eq_true rfl)⟩ rfl (fun r w1 H locs hQ V => ?_)
      obtain ⟨z1_39, z2_40, z3_41, mm_42, uu_43, g3_44, g7_45, g8_46, g10_47, rfl, rfl, f_48, f_49, f_50, f_51, f_52⟩ := hQ
      have V : gW D T A s [(o, .inr (7, [.ref n0, .ref s0, .ref im, .ref iz, .ref rw, .ref t0, .ref u0, .ref h0, .ref y0, sv])), (rw, .inl (T 5, 4, .inr (.inr (.inr (.inr (va_up (va_up (va_up (va_up (fun _ => none) 0 (some ra0)) 1 (some rb0)) 2 (some rc0)) 3 (some rd0))))))), (ra0, .inr (1, [.int rah, .int (nI raz), .ref ra1, .int (nI ras)])), (ra1, .inl (T 1, 40, .inr (.inl raf))), (rb0, .inr (1, [.int rbh, .int (nI rbz), .ref rb1, .int (nI rbs)])), (rb1, .inl (T 1, 40, .inr (.inl rbf))), (rc0, .inr (1, [.int rch, .int (nI rcz), .ref rc1, .int (nI rcs)])), (rc1, .inl (T 1, 40, .inr (.inl rcf))), (rd0, .inr (1, [.int rdh, .int (nI rdz), .ref rd1, .int (nI rds)])), (rd1, .inl (T 1, 40, .inr (.inl rdf))), (u0, .inr (6, [.int z1_39, .int z2_40, .int z3_41])), (n0, .inr (5, [.int (nI nn), .int mm_42, .int nl, .int no, .int uu_43, .ref n1, .ref n2, .ref n3, .ref n4, .ref n5, .ref n6, .ref n7, .ref n8, .ref n9, .ref n10])), (n1, .inl (T 0, 10, .inl nf1)), (n2, .inl (T 0, 10, .inl nf2)), (n3, .inl (T 0, 10, .inl g3_44)), (n4, .inl (T 0, 10, .inl nf4)), (n5, .inl (T 0, 10, .inl nf5)), (n6, .inl (T 0, 10, .inl nf6)), (n7, .inl (T 0, 10, .inl g7_45)), (n8, .inl (T 0, 10, .inl g8_46)), (n9, .inl (T 0, 10, .inl nf9)), (n10, .inl (T 0, 10, .inl g10_47))] H locs := V _ [6, 0, 2, 0, 0, 0, 0, 0, 0, 0, 0, 0, 0, 0] rfl rfl rfl (by decide +kernel) rfl
      show W p l e _ s m args below meth c H locs _ _ _ (F0 m 29 ls [])
      refine lv_aload_n hx hb dX7_perform_29 rfl (lv_at hl 1 rfl) ?_
      refine g_get hC V (ci := 7) uwX7 0 rfl rfl 6 (by decide) w_255 rfl rfl dX7_perform_30 ?_
      refine g_get hC V (ci := 6) uwX6 10 rfl rfl 0 (by decide) w_165 rfl rfl dX7_perform_33 ?_
      exact g_iret (Qr := (q_x_perform_f T fq fm fn fa o row n0 s0 im iz rw t0 u0 h0 y0 sv ra0 rb0 rc0 rd0 rah raz ra1 ras raf rbh rbz rb1 rbs rbf rch rcz rc1 rcs rcf rdh rdz rd1 rds rdf tp ty tc nn nm nl no nu n1 n2 n3 n4 n5 n6 n7 n8 n9 n10 nf1 nf2 nf3 nf4 nf5 nf6 nf7 nf8 nf9 nf10)) hC V ⟨(Nat.le_of_ble_eq_true rfl), (Nat.le_of_ble_eq_true rfl)⟩ ⟨z1_39, z2_40, z3_41, z1_39, mm_42, uu_43, g3_44, g7_45, g8_46, g10_47, rfl, rfl, (f_48.trans (per_y (n := nn) (f := fa) (fn := fn) (rr_s ej_10 (by decide) hRk.1 (by omega)) ej_10 (by decide) hRk.2.1 (by omega)).1), (by rw [← (per_y (n := nn) (f := fa) (fn := fn) (rr_s ej_10 (by decide) hRk.1 (by omega)) ej_10 (by decide) hRk.2.1 (by omega)).2]; exact f_52)⟩ dX7_perform_36
    · have hRk := RW_y h_r3 (f_6 ej_10)
      refine lv_istore_n (lv' := [(2, .int (nI 0)), (0, .ref o), (1, .int (nI 3))]) hx hb dX7_perform_5 rfl hl (by decide) rfl (fun ls hl => ?_)
      refine lv_iload_n hx hb dX7_perform_6 rfl (lv_at hl 0 rfl) ?_
      refine lv_if_eq (tgt := 12) hx hb dX7_perform_7 (by decide) (fun _ => ?_) (fun c => absurd (show (nI 0) = 0 by decide +kernel) c)
      refine lv_aload_n hx hb dX7_perform_12 rfl (lv_at hl 1 rfl) ?_
      refine g_get hC V (ci := 7) uwX7 0 rfl rfl 6 (by decide) w_255 rfl rfl dX7_perform_13 ?_
      refine lv_aload_n hx hb dX7_perform_16 rfl (lv_at hl 1 rfl) ?_
      refine g_get hC V (ci := 7) uwX7 0 rfl rfl 0 (by decide) w_249 rfl rfl dX7_perform_17 ?_
      refine lv_aload_n hx hb dX7_perform_20 rfl (lv_at hl 1 rfl) ?_
      refine g_get hC V (ci := 7) uwX7 0 rfl rfl 4 (by decide) w_253 rfl rfl dX7_perform_21 ?_
      refine lv_iload_n hx hb dX7_perform_24 rfl (lv_at hl 2 rfl) ?_
      refine g_aald hC V 1 5 rfl rfl (vp_in_nI (by decide) (by decide)) (v := .ref rd0) (by rw [nI_clamp (by decide)]; rfl) dX7_perform_25 ?_
      refine g_callVU (nA := 2) hC V hl.1 (t_passOn_f l D T fa (fun i => fn (40 * 3 + i)) u0 n0 rd0 tp ty tc nn nm nl no nu n1 n2 n3 n4 n5 n6 n7 n8 n9 n10 nf1 nf2 nf3 nf4 nf5 nf6 nf7 nf8 nf9 nf10 rdh rdz rd1 rds rdf (by first | assumption | omega) (by first | assumption | omega) (by first | assumption | omega) (by first | assumption | omega) (by first | assumption | omega) (by first | assumption | omega) hRk.2.2) w_504 w_505 w_506 w_5 w_507 (by decide +kernel) rfl ⟨(Nat.le_of_ble_eq_true rfl), (Nat.le_of_ble_eq_true rfl)⟩ 10 (ci := 6) rfl rfl [10, 11, 12, 13, 14, 15, 16, 17, 18, 19, 20, 21, 8, 9] rfl rfl (Nat.le_of_ble_eq_true rfl) dX7_perform_26 ⟨(Nat.le_of_ble_eq_true rfl), (Nat.le_of_ble_eq_true rfl)⟩ rfl (fun r w1 H locs hQ V => ?_)
      obtain ⟨z1_53, z2_54, z3_55, mm_56, uu_57, g3_58, g7_59, g8_60, g10_61, rfl, rfl, f_62, f_63, f_64, f_65, f_66⟩ := hQ
      have V : gW D T A s [(o, .inr (7, [.ref n0, .ref s0, .ref im, .ref iz, .ref rw, .ref t0, .ref u0, .ref h0, .ref y0, sv])), (rw, .inl (T 5, 4, .inr (.inr (.inr (.inr (va_up (va_up (va_up (va_up (fun _ => none) 0 (some ra0)) 1 (some rb0)) 2 (some rc0)) 3 (some rd0))))))), (ra0, .inr (1, [.int rah, .int (nI raz), .ref ra1, .int (nI ras)])), (ra1, .inl (T 1, 40, .inr (.inl raf))), (rb0, .inr (1, [.int rbh, .int (nI rbz), .ref rb1, .int (nI rbs)])), (rb1, .inl (T 1, 40, .inr (.inl rbf))), (rc0, .inr (1, [.int rch, .int (nI rcz), .ref rc1, .int (nI rcs)])), (rc1, .inl (T 1, 40, .inr (.inl rcf))), (rd0, .inr (1, [.int rdh, .int (nI rdz), .ref rd1, .int (nI rds)])), (rd1, .inl (T 1, 40, .inr (.inl rdf))), (u0, .inr (6, [.int z1_53, .int z2_54, .int z3_55])), (n0, .inr (5, [.int (nI nn), .int mm_56, .int nl, .int no, .int uu_57, .ref n1, .ref n2, .ref n3, .ref n4, .ref n5, .ref n6, .ref n7, .ref n8, .ref n9, .ref n10])), (n1, .inl (T 0, 10, .inl nf1)), (n2, .inl (T 0, 10, .inl nf2)), (n3, .inl (T 0, 10, .inl g3_58)), (n4, .inl (T 0, 10, .inl nf4)), (n5, .inl (T 0, 10, .inl nf5)), (n6, .inl (T 0, 10, .inl nf6)), (n7, .inl (T 0, 10, .inl g7_59)), (n8, .inl (T 0, 10, .inl g8_60)), (n9, .inl (T 0, 10, .inl nf9)), (n10, .inl (T 0, 10, .inl g10_61))] H locs := V _ [8, 0, 0, 0, 0, 0, 0, 0, 0, 0, 0, 0, 0, 0] rfl rfl rfl (by decide +kernel) rfl
      show W p l e _ s m args below meth c H locs _ _ _ (F0 m 29 ls [])
      refine lv_aload_n hx hb dX7_perform_29 rfl (lv_at hl 1 rfl) ?_
      refine g_get hC V (ci := 7) uwX7 0 rfl rfl 6 (by decide) w_255 rfl rfl dX7_perform_30 ?_
      refine g_get hC V (ci := 6) uwX6 10 rfl rfl 0 (by decide) w_165 rfl rfl dX7_perform_33 ?_
      exact g_iret (Qr := (q_x_perform_f T fq fm fn fa o row n0 s0 im iz rw t0 u0 h0 y0 sv ra0 rb0 rc0 rd0 rah raz ra1 ras raf rbh rbz rb1 rbs rbf rch rcz rc1 rcs rcf rdh rdz rd1 rds rdf tp ty tc nn nm nl no nu n1 n2 n3 n4 n5 n6 n7 n8 n9 n10 nf1 nf2 nf3 nf4 nf5 nf6 nf7 nf8 nf9 nf10)) hC V ⟨(Nat.le_of_ble_eq_true rfl), (Nat.le_of_ble_eq_true rfl)⟩ ⟨z1_53, z2_54, z3_55, z1_53, mm_56, uu_57, g3_58, g7_59, g8_60, g10_61, rfl, rfl, (f_62.trans (per_y (n := nn) (f := fa) (fn := fn) (rr_s ej_10 (by decide) hRk.1 (by omega)) ej_10 (by decide) hRk.2.1 (by omega)).1), (by rw [← (per_y (n := nn) (f := fa) (fn := fn) (rr_s ej_10 (by decide) hRk.1 (by omega)) ej_10 (by decide) hRk.2.1 (by omega)).2]; exact f_66)⟩ dX7_perform_36
  · have V : gW D T A s [(o, .inr (7, [.ref n0, .ref s0, .ref im, .ref iz, .ref rw, .ref t0, .ref u0, .ref h0, .ref y0, sv])), (rw, .inl (T 5, 4, .inr (.inr (.inr (.inr (va_up (va_up (va_up (va_up (fun _ => none) 0 (some ra0)) 1 (some rb0)) 2 (some rc0)) 3 (some rd0))))))), (ra0, .inr (1, [.int rah, .int (nI raz), .ref ra1, .int (nI ras)])), (ra1, .inl (T 1, 40, .inr (.inl raf))), (rb0, .inr (1, [.int rbh, .int (nI rbz), .ref rb1, .int (nI rbs)])), (rb1, .inl (T 1, 40, .inr (.inl rbf))), (rc0, .inr (1, [.int rch, .int (nI rcz), .ref rc1, .int (nI rcs)])), (rc1, .inl (T 1, 40, .inr (.inl rcf))), (rd0, .inr (1, [.int rdh, .int (nI rdz), .ref rd1, .int (nI rds)])), (rd1, .inl (T 1, 40, .inr (.inl rdf))), (u0, .inr (6, [.int tp, .int ty, .int tc])), (n0, .inr (5, [.int (nI nn), .int nm, .int nl, .int no, .int nu, .ref n1, .ref n2, .ref n3, .ref n4, .ref n5, .ref n6, .ref n7, .ref n8, .ref n9, .ref n10])), (n1, .inl (T 0, 10, .inl nf1)), (n2, .inl (T 0, 10, .inl nf2)), (n3, .inl (T 0, 10, .inl nf3)), (n4, .inl (T 0, 10, .inl nf4)), (n5, .inl (T 0, 10, .inl nf5)), (n6, .inl (T 0, 10, .inl nf6)), (n7, .inl (T 0, 10, .inl nf7)), (n8, .inl (T 0, 10, .inl nf8)), (n9, .inl (T 0, 10, .inl nf9)), (n10, .inl (T 0, 10, .inl nf10))] H locs := V _ [0, 0, 0, 0, 0, 0, 0, 0, 0, 0] rfl rfl rfl (by decide +kernel) rfl
    show W p l e _ s m args below meth c H locs _ _ _ (F0 m 5 ls [.int z_7])
    refine lv_istore_n (lv' := [(2, .int z_7), (0, .ref o), (1, .int row)]) hx hb dX7_perform_5 rfl hl (by decide) rfl (fun ls hl => ?_)
    refine lv_iload_n hx hb dX7_perform_6 rfl (lv_at hl 0 rfl) ?_
    refine lv_if_eq (tgt := 12) hx hb dX7_perform_7 (by decide) (fun c_67 => ?_) (fun c_67 => ?_)
    · skip
      exact (absurd c_67 (by assumption) : False).elim
    · skip
      refine lv_iload_n hx hb dX7_perform_10 rfl (lv_at hl 0 rfl) ?_
      exact g_iret (Qr := (q_x_perform_f T fq fm fn fa o row n0 s0 im iz rw t0 u0 h0 y0 sv ra0 rb0 rc0 rd0 rah raz ra1 ras raf rbh rbz rb1 rbs rbf rch rcz rc1 rcs rcf rdh rdz rd1 rds rdf tp ty tc nn nm nl no nu n1 n2 n3 n4 n5 n6 n7 n8 n9 n10 nf1 nf2 nf3 nf4 nf5 nf6 nf7 nf8 nf9 nf10)) hC V ⟨(Nat.le_of_ble_eq_true rfl), (Nat.le_of_ble_eq_true rfl)⟩ ⟨tp, ty, tc, z_7, nm, nu, nf3, nf7, nf8, nf10, rfl, rfl, (per_n (n := nn) (f := fa) (fm := fm) (fn := fn) (f_9.trans (rr_eq (RW_0 h_r0 h_sra) (RW_0 h_r1 h_srb) (RW_0 h_r2 h_src) (RW_0 h_r3 h_srd))) f_8).1, (by rw [← (per_n (n := nn) (f := fa) (fm := fm) (fn := fn) (f_9.trans (rr_eq (RW_0 h_r0 h_sra) (RW_0 h_r1 h_srb) (RW_0 h_r2 h_src) (RW_0 h_r3 h_srd))) f_8).2]; exact h_sr)⟩ dX7_perform_11

/-! images as both have them -/
theorem SR_ext {n : Nat} {m l o : Int32} {f1 f2 f3 f4 f5 f6 f7 f9 f g : Nat → Int32} (hn : n ≤ 10) (h : SR n m l o f1 f2 f3 f4 f5 f6 f7 f9 f) (e : ∀ j, j < 94 → g j = f j) : SR n m l o f1 f2 f3 f4 f5 f6 f7 f9 g := by
  obtain ⟨a0, a1, a2, a3, a4⟩ := h
  refine ⟨(e 0 (by decide)).trans a0, (e 1 (by decide)).trans a1, (e 2 (by decide)).trans a2, (e 3 (by decide)).trans a3, fun i hi => ?_⟩
  rw [e (4 + i) (by omega), e (14 + i) (by omega), e (24 + i) (by omega), e (34 + i) (by omega), e (44 + i) (by omega), e (54 + i) (by omega), e (64 + i) (by omega), e (84 + i) (by omega)]
  exact a4 i hi
/-- an image that is made: its street, and its minute -/
def IM (h : Int32) (n : Nat) (m l o : Int32) (f1 f2 f3 f4 f5 f6 f7 f9 g : Nat → Int32) : Prop := ¬ h = 0 → (SR n m l o f1 f2 f3 f4 f5 f6 f7 f9 g ∧ bd (g 1) 10000)
theorem IM_new {h : Int32} {n : Nat} {m l o : Int32} {f1 f2 f3 f4 f5 f6 f7 f9 f g : Nat → Int32} (hn : n ≤ 10) (H : SR n m l o f1 f2 f3 f4 f5 f6 f7 f9 f) (hm : bd (f 1) 10000) (e : ∀ j, j < 94 → g j = f j) : IM h n m l o f1 f2 f3 f4 f5 f6 f7 f9 g := fun _ => ⟨SR_ext hn H e, by rw [e 1 (by decide)]; exact hm⟩
theorem IM_old {h h' : Int32} {n : Nat} {m l o : Int32} {f1 f2 f3 f4 f5 f6 f7 f9 f g : Nat → Int32} (hn : n ≤ 10) (H : IM h n m l o f1 f2 f3 f4 f5 f6 f7 f9 f) (eh : h' = h) (e : ∀ j, j < 94 → g j = f j) : IM h' n m l o f1 f2 f3 f4 f5 f6 f7 f9 g := fun q => ⟨SR_ext hn (H (by rw [← eh]; exact q)).1 e, by rw [e 1 (by decide)]; exact (H (by rw [← eh]; exact q)).2⟩
/-- the numbers behind image(i) -/
def imF (i : Int32) (f : Nat → Int32) : Nat → Int32 := if i = nI 0 then (fun j => if 94 ≤ j ∧ j < 188 then f (j - 94) else f j) else if i = nI 1 then (fun j => if 188 ≤ j ∧ j < 282 then f (j - 188) else f j) else f
theorem imF_o {i : Int32} {f : Nat → Int32} (h : i < 0 ∨ nI 2 ≤ i) : f = imF i f := by unfold imF; rw [if_neg (fun e => rs_in e (by decide) h), if_neg (fun e => rs_in e (by decide) h)]
theorem imF_0 {i : Int32} {f : Nat → Int32} (e : i = nI 0) (j : Nat) : imF i f j = if 94 ≤ j ∧ j < 188 then f (j - 94) else f j := by unfold imF; rw [if_pos e]
theorem imF_1 {i : Int32} {f : Nat → Int32} (e : i = nI 1) (j : Nat) : imF i f j = if 188 ≤ j ∧ j < 282 then f (j - 188) else f j := by unfold imF; rw [if_neg (fun q => rs_01 (q.symm.trans e)), if_pos e]
theorem imF_x {i : Int32} {f : Nat → Int32} {j : Nat} (h : j < 94) : imF i f j = f j := by
  unfold imF
  split
  · exact if_neg (by omega)
  · split
    · exact if_neg (by omega)
    · rfl
theorem imF_00 {i : Int32} {f : Nat → Int32} (e : i = nI 0) : ∀ j, j < 94 → imF i f (94 + j) = f j := fun j h => by rw [imF_0 e, if_pos (by omega), show 94 + j - 94 = j by omega]
theorem imF_01 {i : Int32} {f : Nat → Int32} (e : i = nI 0) : ∀ j, j < 94 → imF i f (188 + j) = f (188 + j) := fun j h => by rw [imF_0 e, if_neg (by omega)]
theorem imF_10 {i : Int32} {f : Nat → Int32} (e : i = nI 1) : ∀ j, j < 94 → imF i f (94 + j) = f (94 + j) := fun j h => by rw [imF_1 e, if_neg (by omega)]
theorem imF_11 {i : Int32} {f : Nat → Int32} (e : i = nI 1) : ∀ j, j < 94 → imF i f (188 + j) = f j := fun j h => by rw [imF_1 e, if_pos (by omega), show 188 + j - 188 = j by omega]
theorem imF_m0 {i : Int32} {f g : Nat → Int32} (e : i = nI 0) (h1 : ∀ j, j < 94 → g (94 + j) = f j) (h2 : ∀ j, j < 94 → g j = f j) (h3 : ∀ j, 188 ≤ j → g j = f j) : g = imF i f := by
  funext j
  rw [imF_0 e]
  by_cases c : 94 ≤ j ∧ j < 188
  · rw [if_pos c]
    have := h1 (j - 94) (by omega)
    rw [show 94 + (j - 94) = j by omega] at this; exact this
  · rw [if_neg c]
    by_cases c2 : j < 94
    · exact h2 j c2
    · exact h3 j (by omega)
theorem imF_m1 {i : Int32} {f g : Nat → Int32} (e : i = nI 1) (h1 : ∀ j, j < 94 → g (188 + j) = f j) (h2 : ∀ j, j < 188 → g j = f j) (h3 : ∀ j, 282 ≤ j → g j = f j) : g = imF i f := by
  funext j
  rw [imF_1 e]
  by_cases c : 188 ≤ j ∧ j < 282
  · rw [if_pos c]
    have := h1 (j - 188) (by omega)
    rw [show 188 + (j - 188) = j by omega] at this; exact this
  · rw [if_neg c]
    by_cases c2 : j < 188
    · exact h2 j c2
    · exact h3 j (by omega)
/-- the numbers behind restore(i) -/
def resF (i : Int32) (f : Nat → Int32) (a b : Int32) : Nat → Int32 := if resWhy i a b = nI 0 then (if i = nI 0 then (fun j => if j < 94 then f (94 + j) else f j) else (fun j => if j < 94 then f (188 + j) else f j)) else f
theorem resF_n {i z a b : Int32} {f : Nat → Int32} (h : z = resWhy i a b) (hz : ¬ z = nI 0) : f = resF i f a b := by unfold resF; rw [if_neg (fun q => hz (h.trans q))]
theorem resF_0 {i a b : Int32} {f : Nat → Int32} (h : nI 0 = resWhy i a b) (e : i = nI 0) (j : Nat) : resF i f a b j = if j < 94 then f (94 + j) else f j := by unfold resF; rw [if_pos h.symm, if_pos e]
theorem resF_1 {i a b : Int32} {f : Nat → Int32} (h : nI 0 = resWhy i a b) (e : i = nI 1) (j : Nat) : resF i f a b j = if j < 94 then f (188 + j) else f j := by unfold resF; rw [if_pos h.symm, if_neg (fun q => rs_01 (q.symm.trans e))]
theorem resF_a {i a b : Int32} {f : Nat → Int32} (h : nI 0 = resWhy i a b) (e : i = nI 0) : ∀ j, j < 94 → resF i f a b j = f (94 + j) := fun j hj => by rw [resF_0 h e, if_pos hj]
theorem resF_b {i a b : Int32} {f : Nat → Int32} (h : nI 0 = resWhy i a b) (e : i = nI 1) : ∀ j, j < 94 → resF i f a b j = f (188 + j) := fun j hj => by rw [resF_1 h e, if_pos hj]
theorem resF_m0 {i a b : Int32} {f g : Nat → Int32} (h : nI 0 = resWhy i a b) (e : i = nI 0) (h1 : ∀ j, j < 94 → g j = f (94 + j)) (h2 : ∀ j, 94 ≤ j → g j = f j) : g = resF i f a b := by
  funext j
  rw [resF_0 h e]
  by_cases c : j < 94
  · rw [if_pos c]; exact h1 j c
  · rw [if_neg c]; exact h2 j (by omega)
theorem resF_m1 {i a b : Int32} {f g : Nat → Int32} (h : nI 0 = resWhy i a b) (e : i = nI 1) (h1 : ∀ j, j < 94 → g j = f (188 + j)) (h2 : ∀ j, 94 ≤ j → g j = f j) : g = resF i f a b := by
  funext j
  rw [resF_1 h e]
  by_cases c : j < 94
  · rw [if_pos c]; exact h1 j c
  · rw [if_neg c]; exact h2 j (by omega)
theorem m5_0 : ¬ (-5 : Int32) = nI 0 := by decide +kernel

def q_x_image_g (T : Nat → ClassId) (fa : Nat → Int32) (o : Nat) (i : Int32) (n0 : Nat) (s0 : Nat) (im : Nat) (iz : Nat) (rw : Nat) (t0 : Nat) (u0 : Nat) (h0 : Nat) (y0 : Nat) (sv : Value) (v0 : Nat) (w0 : Nat) (fz : Nat → Int32) (vn : Nat) (vm : Int32) (vl : Int32) (vo : Int32) (vu : Int32) (v1 : Nat) (v2 : Nat) (v3 : Nat) (v4 : Nat) (v5 : Nat) (v6 : Nat) (v7 : Nat) (v8 : Nat) (v9 : Nat) (v10 : Nat) (vf1 : Nat → Int32) (vf2 : Nat → Int32) (vf3 : Nat → Int32) (vf4 : Nat → Int32) (vf5 : Nat → Int32) (vf6 : Nat → Int32) (vf7 : Nat → Int32) (vf8 : Nat → Int32) (vf9 : Nat → Int32) (wn : Nat) (wm : Int32) (wl : Int32) (wo : Int32) (wu : Int32) (w1 : Nat) (w2 : Nat) (w3 : Nat) (w4 : Nat) (w5 : Nat) (w6 : Nat) (w7 : Nat) (w8 : Nat) (w9 : Nat) (w10 : Nat) (wf1 : Nat → Int32) (wf2 : Nat → Int32) (wf3 : Nat → Int32) (wf4 : Nat → Int32) (wf5 : Nat → Int32) (wf6 : Nat → Int32) (wf7 : Nat → Int32) (wf8 : Nat → Int32) (wf9 : Nat → Int32) (nn : Nat) (nm : Int32) (nl : Int32) (no : Int32) (nu : Int32) (n1 : Nat) (n2 : Nat) (n3 : Nat) (n4 : Nat) (n5 : Nat) (n6 : Nat) (n7 : Nat) (n8 : Nat) (n9 : Nat) (n10 : Nat) (nf1 : Nat → Int32) (nf2 : Nat → Int32) (nf3 : Nat → Int32) (nf4 : Nat → Int32) (nf5 : Nat → Int32) (nf6 : Nat → Int32) (nf7 : Nat → Int32) (nf8 : Nat → Int32) (nf9 : Nat → Int32) : Option Value → va_W → Prop := fun rr ww => (∃ (z : Int32) (fz2 : Nat → Int32) (vM : Int32) (vL : Int32) (vO : Int32) (vU : Int32) (wM : Int32) (wL : Int32) (wO : Int32) (wU : Int32) (vN : Nat) (wN : Nat) (vg1 : Nat → Int32) (vg2 : Nat → Int32) (vg3 : Nat → Int32) (vg4 : Nat → Int32) (vg5 : Nat → Int32) (vg6 : Nat → Int32) (vg7 : Nat → Int32) (vg8 : Nat → Int32) (vg9 : Nat → Int32) (wg1 : Nat → Int32) (wg2 : Nat → Int32) (wg3 : Nat → Int32) (wg4 : Nat → Int32) (wg5 : Nat → Int32) (wg6 : Nat → Int32) (wg7 : Nat → Int32) (wg8 : Nat → Int32) (wg9 : Nat → Int32), rr = some (.int z) ∧ ww = [(o, .inr (7, [.ref n0, .ref s0, .ref im, .ref iz, .ref rw, .ref t0, .ref u0, .ref h0, .ref y0, sv])), (im, .inl (T 4, 2, .inr (.inr (.inr (.inr (va_up (va_up (fun _ => none) 0 (some v0)) 1 (some w0))))))), (iz, .inl (T 2, 2, .inl fz2)), (v0, .inr (5, [.int (nI vN), .int vM, .int vL, .int vO, .int vU, .ref v1, .ref v2, .ref v3, .ref v4, .ref v5, .ref v6, .ref v7, .ref v8, .ref v9, .ref v10])), (v1, .inl (T 0, 10, .inl vg1)), (v2, .inl (T 0, 10, .inl vg2)), (v3, .inl (T 0, 10, .inl vg3)), (v4, .inl (T 0, 10, .inl vg4)), (v5, .inl (T 0, 10, .inl vg5)), (v6, .inl (T 0, 10, .inl vg6)), (v7, .inl (T 0, 10, .inl vg7)), (v8, .inl (T 0, 10, .inl vg8)), (v9, .inl (T 0, 10, .inl vg9)), (w0, .inr (5, [.int (nI wN), .int wM, .int wL, .int wO, .int wU, .ref w1, .ref w2, .ref w3, .ref w4, .ref w5, .ref w6, .ref w7, .ref w8, .ref w9, .ref w10])), (w1, .inl (T 0, 10, .inl wg1)), (w2, .inl (T 0, 10, .inl wg2)), (w3, .inl (T 0, 10, .inl wg3)), (w4, .inl (T 0, 10, .inl wg4)), (w5, .inl (T 0, 10, .inl wg5)), (w6, .inl (T 0, 10, .inl wg6)), (w7, .inl (T 0, 10, .inl wg7)), (w8, .inl (T 0, 10, .inl wg8)), (w9, .inl (T 0, 10, .inl wg9)), (n0, .inr (5, [.int (nI nn), .int nm, .int nl, .int no, .int nu, .ref n1, .ref n2, .ref n3, .ref n4, .ref n5, .ref n6, .ref n7, .ref n8, .ref n9, .ref n10])), (n1, .inl (T 0, 10, .inl nf1)), (n2, .inl (T 0, 10, .inl nf2)), (n3, .inl (T 0, 10, .inl nf3)), (n4, .inl (T 0, 10, .inl nf4)), (n5, .inl (T 0, 10, .inl nf5)), (n6, .inl (T 0, 10, .inl nf6)), (n7, .inl (T 0, 10, .inl nf7)), (n8, .inl (T 0, 10, .inl nf8)), (n9, .inl (T 0, 10, .inl nf9))] ∧ z = imgWhy i ∧ vN ≤ 10 ∧ (∀ i, i < vN → bd (vg9 i) vN) ∧ wN ≤ 10 ∧ (∀ i, i < wN → bd (wg9 i) wN) ∧ fz2 = imZ i fz ∧ IM (fz2 0) vN vM vL vO vg1 vg2 vg3 vg4 vg5 vg6 vg7 vg9 (fun j => imF i fa (94 + j)) ∧ IM (fz2 1) wN wM wL wO wg1 wg2 wg3 wg4 wg5 wg6 wg7 wg9 (fun j => imF i fa (188 + j)))
set_option maxHeartbeats 4000000 in
set_option maxRecDepth 100000 in
theorem x_image_g (l : Launch) (D : va_G) (T : Nat → ClassId) (fa : Nat → Int32) (o : Nat) (i : Int32) (n0 : Nat) (s0 : Nat) (im : Nat) (iz : Nat) (rw : Nat) (t0 : Nat) (u0 : Nat) (h0 : Nat) (y0 : Nat) (sv : Value) (v0 : Nat) (w0 : Nat) (fz : Nat → Int32) (vn : Nat) (vm : Int32) (vl : Int32) (vo : Int32) (vu : Int32) (v1 : Nat) (v2 : Nat) (v3 : Nat) (v4 : Nat) (v5 : Nat) (v6 : Nat) (v7 : Nat) (v8 : Nat) (v9 : Nat) (v10 : Nat) (vf1 : Nat → Int32) (vf2 : Nat → Int32) (vf3 : Nat → Int32) (vf4 : Nat → Int32) (vf5 : Nat → Int32) (vf6 : Nat → Int32) (vf7 : Nat → Int32) (vf8 : Nat → Int32) (vf9 : Nat → Int32) (wn : Nat) (wm : Int32) (wl : Int32) (wo : Int32) (wu : Int32) (w1 : Nat) (w2 : Nat) (w3 : Nat) (w4 : Nat) (w5 : Nat) (w6 : Nat) (w7 : Nat) (w8 : Nat) (w9 : Nat) (w10 : Nat) (wf1 : Nat → Int32) (wf2 : Nat → Int32) (wf3 : Nat → Int32) (wf4 : Nat → Int32) (wf5 : Nat → Int32) (wf6 : Nat → Int32) (wf7 : Nat → Int32) (wf8 : Nat → Int32) (wf9 : Nat → Int32) (nn : Nat) (nm : Int32) (nl : Int32) (no : Int32) (nu : Int32) (n1 : Nat) (n2 : Nat) (n3 : Nat) (n4 : Nat) (n5 : Nat) (n6 : Nat) (n7 : Nat) (n8 : Nat) (n9 : Nat) (n10 : Nat) (nf1 : Nat → Int32) (nf2 : Nat → Int32) (nf3 : Nat → Int32) (nf4 : Nat → Int32) (nf5 : Nat → Int32) (nf6 : Nat → Int32) (nf7 : Nat → Int32) (nf8 : Nat → Int32) (nf9 : Nat → Int32) (h_n : nn ≤ 10) (h_t : ∀ i, i < nn → bd (nf9 i) nn) (h_nv : vn ≤ 10) (h_tv : ∀ i, i < vn → bd (vf9 i) vn) (h_nw : wn ≤ 10) (h_tw : ∀ i, i < wn → bd (wf9 i) wn) (h_sr : SR nn nm nl no nf1 nf2 nf3 nf4 nf5 nf6 nf7 nf9 fa) (h_mn : bd (fa 1) 10000) (h_m0 : IM (fz 0) vn vm vl vo vf1 vf2 vf3 vf4 vf5 vf6 vf7 vf9 (fun j => fa (94 + j))) (h_m1 : IM (fz 1) wn wm wl wo wf1 wf2 wf3 wf4 wf5 wf6 wf7 wf9 (fun j => fa (188 + j))) : Ct l yX7_image cX7_image 2 (some .int) 1 0 0 D T [.ref o, .int i] [(o, .inr (7, [.ref n0, .ref s0, .ref im, .ref iz, .ref rw, .ref t0, .ref u0, .ref h0, .ref y0, sv])), (im, .inl (T 4, 2, .inr (.inr (.inr (.inr (va_up (va_up (fun _ => none) 0 (some v0)) 1 (some w0))))))), (iz, .inl (T 2, 2, .inl fz)), (v0, .inr (5, [.int (nI vn), .int vm, .int vl, .int vo, .int vu, .ref v1, .ref v2, .ref v3, .ref v4, .ref v5, .ref v6, .ref v7, .ref v8, .ref v9, .ref v10])), (v1, .inl (T 0, 10, .inl vf1)), (v2, .inl (T 0, 10, .inl vf2)), (v3, .inl (T 0, 10, .inl vf3)), (v4, .inl (T 0, 10, .inl vf4)), (v5, .inl (T 0, 10, .inl vf5)), (v6, .inl (T 0, 10, .inl vf6)), (v7, .inl (T 0, 10, .inl vf7)), (v8, .inl (T 0, 10, .inl vf8)), (v9, .inl (T 0, 10, .inl vf9)), (w0, .inr (5, [.int (nI wn), .int wm, .int wl, .int wo, .int wu, .ref w1, .ref w2, .ref w3, .ref w4, .ref w5, .ref w6, .ref w7, .ref w8, .ref w9, .ref w10])), (w1, .inl (T 0, 10, .inl wf1)), (w2, .inl (T 0, 10, .inl wf2)), (w3, .inl (T 0, 10, .inl wf3)), (w4, .inl (T 0, 10, .inl wf4)), (w5, .inl (T 0, 10, .inl wf5)), (w6, .inl (T 0, 10, .inl wf6)), (w7, .inl (T 0, 10, .inl wf7)), (w8, .inl (T 0, 10, .inl wf8)), (w9, .inl (T 0, 10, .inl wf9)), (n0, .inr (5, [.int (nI nn), .int nm, .int nl, .int no, .int nu, .ref n1, .ref n2, .ref n3, .ref n4, .ref n5, .ref n6, .ref n7, .ref n8, .ref n9, .ref n10])), (n1, .inl (T 0, 10, .inl nf1)), (n2, .inl (T 0, 10, .inl nf2)), (n3, .inl (T 0, 10, .inl nf3)), (n4, .inl (T 0, 10, .inl nf4)), (n5, .inl (T 0, 10, .inl nf5)), (n6, .inl (T 0, 10, .inl nf6)), (n7, .inl (T 0, 10, .inl nf7)), (n8, .inl (T 0, 10, .inl nf8)), (n9, .inl (T 0, 10, .inl nf9))] (q_x_image_g T fa o i n0 s0 im iz rw t0 u0 h0 y0 sv v0 w0 fz vn vm vl vo vu v1 v2 v3 v4 v5 v6 v7 v8 v9 v10 vf1 vf2 vf3 vf4 vf5 vf6 vf7 vf8 vf9 wn wm wl wo wu w1 w2 w3 w4 w5 w6 w7 w8 w9 w10 wf1 wf2 wf3 wf4 wf5 wf6 wf7 wf8 wf9 nn nm nl no nu n1 n2 n3 n4 n5 n6 n7 n8 n9 n10 nf1 nf2 nf3 nf4 nf5 nf6 nf7 nf8 nf9) := by
  refine Ct.of (cc := cX7_image) (maxL := 2) (ret := (some .int)) (by decide) (Nat.le_of_ble_eq_true rfl) ?_
  intro p e s m args below meth c A ls hC hnm V hl
  obtain ⟨hx, hb, hr, hml, hown, hts, hlocks⟩ := id hC
  generalize hH : s.heap = H at V ⊢
  clear hH
  have hl : lv_has ls 2 [(0, .ref o), (1, .int i)] := hl
  generalize hlo : ([] : List Loc) = locs at V ⊢
  clear hlo
  refine lv_iload_n hx hb dX7_image_0 rfl (lv_at hl 1 rfl) ?_
  refine g_callSU (nA := 1) hC V hl.1 (c_isImage l D T i) w_887 w_888 w_2 w_889 (by decide +kernel) rfl ⟨(Nat.le_of_ble_eq_true rfl), (Nat.le_of_ble_eq_true rfl)⟩ [] rfl rfl (Nat.le_of_ble_eq_true rfl) dX7_image_1 ⟨(Nat.le_of_ble_eq_true rfl), (Nat.le_of_ble_eq_true rfl)⟩ rfl (fun r w1 H locs hQ V => ?_)
  rcases hQ with ⟨rfl, rfl, f_1, f_2⟩ | ⟨rfl, rfl, f_3⟩
  · have V : gW D T A s [(o, .inr (7, [.ref n0, .ref s0, .ref im, .ref iz, .ref rw, .ref t0, .ref u0, .ref h0, .ref y0, sv])), (im, .inl (T 4, 2, .inr (.inr (.inr (.inr (va_up (va_up (fun _ => none) 0 (some v0)) 1 (some w0))))))), (iz, .inl (T 2, 2, .inl fz)), (v0, .inr (5, [.int (nI vn), .int vm, .int vl, .int vo, .int vu, .ref v1, .ref v2, .ref v3, .ref v4, .ref v5, .ref v6, .ref v7, .ref v8, .ref v9, .ref v10])), (v1, .inl (T 0, 10, .inl vf1)), (v2, .inl (T 0, 10, .inl vf2)), (v3, .inl (T 0, 10, .inl vf3)), (v4, .inl (T 0, 10, .inl vf4)), (v5, .inl (T 0, 10, .inl vf5)), (v6, .inl (T 0, 10, .inl vf6)), (v7, .inl (T 0, 10, .inl vf7)), (v8, .inl (T 0, 10, .inl vf8)), (v9, .inl (T 0, 10, .inl vf9)), (w0, .inr (5, [.int (nI wn), .int wm, .int wl, .int wo, .int wu, .ref w1, .ref w2, .ref w3, .ref w4, .ref w5, .ref w6, .ref w7, .ref w8, .ref w9, .ref w10])), (w1, .inl (T 0, 10, .inl wf1)), (w2, .inl (T 0, 10, .inl wf2)), (w3, .inl (T 0, 10, .inl wf3)), (w4, .inl (T 0, 10, .inl wf4)), (w5, .inl (T 0, 10, .inl wf5)), (w6, .inl (T 0, 10, .inl wf6)), (w7, .inl (T 0, 10, .inl wf7)), (w8, .inl (T 0, 10, .inl wf8)), (w9, .inl (T 0, 10, .inl wf9)), (n0, .inr (5, [.int (nI nn), .int nm, .int nl, .int no, .int nu, .ref n1, .ref n2, .ref n3, .ref n4, .ref n5, .ref n6, .ref n7, .ref n8, .ref n9, .ref n10])), (n1, .inl (T 0, 10, .inl nf1)), (n2, .inl (T 0, 10, .inl nf2)), (n3, .inl (T 0, 10, .inl nf3)), (n4, .inl (T 0, 10, .inl nf4)), (n5, .inl (T 0, 10, .inl nf5)), (n6, .inl (T 0, 10, .inl nf6)), (n7, .inl (T 0, 10, .inl nf7)), (n8, .inl (T 0, 10, .inl nf8)), (n9, .inl (T 0, 10, .inl nf9))] H locs := V _ [] rfl rfl rfl (by decide +kernel) rfl
    show W p l e _ s m args below meth c H locs _ _ _ (F0 m 4 ls [.int (nI 1)])
    obtain ⟨j_4, hj_4, ej_4⟩ := g_idx (n := 2) (by decide) f_1 f_2
    rw [ej_4] at hl
    have hj_4 : j_4 = 0 ∨ j_4 = 1 := by omega
    rcases hj_4 with rfl | rfl
    · skip
      refine lv_if_ne (tgt := 10) hx hb dX7_image_4 (by decide) (fun _ => ?_) (fun c => absurd (show (nI 1) = 0 from c) (by decide +kernel))
      refine lv_aload_n hx hb dX7_image_10 rfl (lv_at hl 0 rfl) ?_
      refine g_get hC V (ci := 7) uwX7 0 rfl rfl 2 (by decide) w_251 rfl rfl dX7_image_11 ?_
      refine lv_iload_n hx hb dX7_image_14 rfl (lv_at hl 1 rfl) ?_
      refine g_aald hC V 1 4 rfl rfl (vp_in_nI (by decide) (by decide)) (v := .ref v0) (by rw [nI_clamp (by decide)]; rfl) dX7_image_15 ?_
      refine lv_aload_n hx hb dX7_image_16 rfl (lv_at hl 0 rfl) ?_
      refine g_get hC V (ci := 7) uwX7 0 rfl rfl 0 (by decide) w_249 rfl rfl dX7_image_17 ?_
      refine g_callVU (nA := 1) hC V hl.1 (s_takeFrom l D T v0 n0 (nI vn) vm vl vo vu v1 v2 v3 v4 v5 v6 v7 v8 v9 v10 vf1 vf2 vf3 vf4 vf5 vf6 vf7 vf8 vf9 nn nm nl no nu n1 n2 n3 n4 n5 n6 n7 n8 n9 n10 nf1 nf2 nf3 nf4 nf5 nf6 nf7 nf8 nf9 (by first | assumption | omega)) w_413 w_414 w_415 w_3 w_416 (by decide +kernel) rfl ⟨(Nat.le_of_ble_eq_true rfl), (Nat.le_of_ble_eq_true rfl)⟩ 3 (ci := 5) rfl rfl [3, 4, 5, 6, 7, 8, 9, 10, 11, 12, 23, 24, 25, 26, 27, 28, 29, 30, 31, 32] rfl rfl (Nat.le_of_ble_eq_true rfl) dX7_image_20 ⟨(Nat.le_of_ble_eq_true rfl), (Nat.le_of_ble_eq_true rfl)⟩ rfl (fun r w1 H locs hQ V => ?_)
      obtain ⟨p1, p2, p3, p4, p5, p6, p7, p8, p9, rfl, rfl, f_5, f_6, f_7, f_8, f_9, f_10, f_11, f_12, f_13⟩ := hQ
      have V : gW D T A s [(o, .inr (7, [.ref n0, .ref s0, .ref im, .ref iz, .ref rw, .ref t0, .ref u0, .ref h0, .ref y0, sv])), (im, .inl (T 4, 2, .inr (.inr (.inr (.inr (va_up (va_up (fun _ => none) 0 (some v0)) 1 (some w0))))))), (iz, .inl (T 2, 2, .inl fz)), (v0, .inr (5, [.int (nI nn), .int nm, .int nl, .int no, .int nu, .ref v1, .ref v2, .ref v3, .ref v4, .ref v5, .ref v6, .ref v7, .ref v8, .ref v9, .ref v10])), (v1, .inl (T 0, 10, .inl p1)), (v2, .inl (T 0, 10, .inl p2)), (v3, .inl (T 0, 10, .inl p3)), (v4, .inl (T 0, 10, .inl p4)), (v5, .inl (T 0, 10, .inl p5)), (v6, .inl (T 0, 10, .inl p6)), (v7, .inl (T 0, 10, .inl p7)), (v8, .inl (T 0, 10, .inl p8)), (v9, .inl (T 0, 10, .inl p9)), (w0, .inr (5, [.int (nI wn), .int wm, .int wl, .int wo, .int wu, .ref w1, .ref w2, .ref w3, .ref w4, .ref w5, .ref w6, .ref w7, .ref w8, .ref w9, .ref w10])), (w1, .inl (T 0, 10, .inl wf1)), (w2, .inl (T 0, 10, .inl wf2)), (w3, .inl (T 0, 10, .inl wf3)), (w4, .inl (T 0, 10, .inl wf4)), (w5, .inl (T 0, 10, .inl wf5)), (w6, .inl (T 0, 10, .inl wf6)), (w7, .inl (T 0, 10, .inl wf7)), (w8, .inl (T 0, 10, .inl wf8)), (w9, .inl (T 0, 10, .inl wf9)), (n0, .inr (5, [.int (nI nn), .int nm, .int nl, .int no, .int nu, .ref n1, .ref n2, .ref n3, .ref n4, .ref n5, .ref n6, .ref n7, .ref n8, .ref n9, .ref n10])), (n1, .inl (T 0, 10, .inl nf1)), (n2, .inl (T 0, 10, .inl nf2)), (n3, .inl (T 0, 10, .inl nf3)), (n4, .inl (T 0, 10, .inl nf4)), (n5, .inl (T 0, 10, .inl nf5)), (n6, .inl (T 0, 10, .inl nf6)), (n7, .inl (T 0, 10, .inl nf7)), (n8, .inl (T 0, 10, .inl nf8)), (n9, .inl (T 0, 10, .inl nf9))] H locs := V _ [3, 0, 0, 0, 0, 0, 0, 0, 0, 0, 10, 0, 0, 0, 0, 0, 0, 0, 0, 0] rfl rfl rfl (by decide +kernel) rfl
      show W p l e _ s m args below meth c H locs _ _ _ (F0 m 23 ls [])
      have hp9 : ∀ i, i < nn → bd (p9 i) nn := fun i h => by rw [f_13 i h]; exact h_t i h
      refine lv_aload_n hx hb dX7_image_23 rfl (lv_at hl 0 rfl) ?_
      refine g_get hC V (ci := 7) uwX7 0 rfl rfl 3 (by decide) w_252 rfl rfl dX7_image_24 ?_
      refine lv_iload_n hx hb dX7_image_27 rfl (lv_at hl 1 rfl) ?_
      refine lv_iconst (v := (nI 1)) hx hb dX7_image_28 (by decide +kernel) ?_
      refine g_zast hC V 2 rfl (vp_in_nI (by decide) (by decide)) (f' := (upd fz 0 (vp_nar .boolean (nI 1)))) (by rw [nI_clamp (by decide)]) (ws' := [(o, .inr (7, [.ref n0, .ref s0, .ref im, .ref iz, .ref rw, .ref t0, .ref u0, .ref h0, .ref y0, sv])), (im, .inl (T 4, 2, .inr (.inr (.inr (.inr (va_up (va_up (fun _ => none) 0 (some v0)) 1 (some w0))))))), (iz, .inl (T 2, 2, .inl (upd fz 0 (vp_nar .boolean (nI 1))))), (v0, .inr (5, [.int (nI nn), .int nm, .int nl, .int no, .int nu, .ref v1, .ref v2, .ref v3, .ref v4, .ref v5, .ref v6, .ref v7, .ref v8, .ref v9, .ref v10])), (v1, .inl (T 0, 10, .inl p1)), (v2, .inl (T 0, 10, .inl p2)), (v3, .inl (T 0, 10, .inl p3)), (v4, .inl (T 0, 10, .inl p4)), (v5, .inl (T 0, 10, .inl p5)), (v6, .inl (T 0, 10, .inl p6)), (v7, .inl (T 0, 10, .inl p7)), (v8, .inl (T 0, 10, .inl p8)), (v9, .inl (T 0, 10, .inl p9)), (w0, .inr (5, [.int (nI wn), .int wm, .int wl, .int wo, .int wu, .ref w1, .ref w2, .ref w3, .ref w4, .ref w5, .ref w6, .ref w7, .ref w8, .ref w9, .ref w10])), (w1, .inl (T 0, 10, .inl wf1)), (w2, .inl (T 0, 10, .inl wf2)), (w3, .inl (T 0, 10, .inl wf3)), (w4, .inl (T 0, 10, .inl wf4)), (w5, .inl (T 0, 10, .inl wf5)), (w6, .inl (T 0, 10, .inl wf6)), (w7, .inl (T 0, 10, .inl wf7)), (w8, .inl (T 0, 10, .inl wf8)), (w9, .inl (T 0, 10, .inl wf9)), (n0, .inr (5, [.int (nI nn), .int nm, .int nl, .int no, .int nu, .ref n1, .ref n2, .ref n3, .ref n4, .ref n5, .ref n6, .ref n7, .ref n8, .ref n9, .ref n10])), (n1, .inl (T 0, 10, .inl nf1)), (n2, .inl (T 0, 10, .inl nf2)), (n3, .inl (T 0, 10, .inl nf3)), (n4, .inl (T 0, 10, .inl nf4)), (n5, .inl (T 0, 10, .inl nf5)), (n6, .inl (T 0, 10, .inl nf6)), (n7, .inl (T 0, 10, .inl nf7)), (n8, .inl (T 0, 10, .inl nf8)), (n9, .inl (T 0, 10, .inl nf9))]) rfl dX7_image_29 (fun H locs V => ?_)
      refine lv_iconst (v := (nI 0)) hx hb dX7_image_30 (by decide +kernel) ?_
      exact g_iret (Qr := (q_x_image_g T fa o i n0 s0 im iz rw t0 u0 h0 y0 sv v0 w0 fz vn vm vl vo vu v1 v2 v3 v4 v5 v6 v7 v8 v9 v10 vf1 vf2 vf3 vf4 vf5 vf6 vf7 vf8 vf9 wn wm wl wo wu w1 w2 w3 w4 w5 w6 w7 w8 w9 w10 wf1 wf2 wf3 wf4 wf5 wf6 wf7 wf8 wf9 nn nm nl no nu n1 n2 n3 n4 n5 n6 n7 n8 n9 n10 nf1 nf2 nf3 nf4 nf5 nf6 nf7 nf8 nf9)) hC V ⟨(Nat.le_of_ble_eq_true rfl), (Nat.le_of_ble_eq_true rfl)⟩ ⟨(nI 0), (upd fz 0 (vp_nar .boolean (nI 1))), nm, nl, no, nu, wm, wl, wo, wu, nn, wn, p1, p2, p3, p4, p5, p6, p7, p8, p9, wf1, wf2, wf3, wf4, wf5, wf6, wf7, wf8, wf9, rfl, rfl, (iw_2 (by assumption) (by assumption)), h_n, hp9, h_nw, h_tw, (iz_0 (by assumption)), (IM_new h_n (SR_cp h_sr f_5 f_6 f_7 f_8 f_9 f_10 f_11 f_13) h_mn (imF_00 (by assumption))), (IM_old h_nw h_m1 (up_other (by decide)) (imF_01 (by assumption)))⟩ dX7_image_31
    · skip
      refine lv_if_ne (tgt := 10) hx hb dX7_image_4 (by decide) (fun _ => ?_) (fun c => absurd (show (nI 1) = 0 from c) (by decide +kernel))
      refine lv_aload_n hx hb dX7_image_10 rfl (lv_at hl 0 rfl) ?_
      refine g_get hC V (ci := 7) uwX7 0 rfl rfl 2 (by decide) w_251 rfl rfl dX7_image_11 ?_
      refine lv_iload_n hx hb dX7_image_14 rfl (lv_at hl 1 rfl) ?_
      refine g_aald hC V 1 4 rfl rfl (vp_in_nI (by decide) (by decide)) (v := .ref w0) (by rw [nI_clamp (by decide)]; rfl) dX7_image_15 ?_
      refine lv_aload_n hx hb dX7_image_16 rfl (lv_at hl 0 rfl) ?_
      refine g_get hC V (ci := 7) uwX7 0 rfl rfl 0 (by decide) w_249 rfl rfl dX7_image_17 ?_
      refine g_callVU (nA := 1) hC V hl.1 (s_takeFrom l D T w0 n0 (nI wn) wm wl wo wu w1 w2 w3 w4 w5 w6 w7 w8 w9 w10 wf1 wf2 wf3 wf4 wf5 wf6 wf7 wf8 wf9 nn nm nl no nu n1 n2 n3 n4 n5 n6 n7 n8 n9 n10 nf1 nf2 nf3 nf4 nf5 nf6 nf7 nf8 nf9 (by first | assumption | omega)) w_413 w_414 w_415 w_3 w_416 (by decide +kernel) rfl ⟨(Nat.le_of_ble_eq_true rfl), (Nat.le_of_ble_eq_true rfl)⟩ 13 (ci := 5) rfl rfl [13, 14, 15, 16, 17, 18, 19, 20, 21, 22, 23, 24, 25, 26, 27, 28, 29, 30, 31, 32] rfl rfl (Nat.le_of_ble_eq_true rfl) dX7_image_20 ⟨(Nat.le_of_ble_eq_true rfl), (Nat.le_of_ble_eq_true rfl)⟩ rfl (fun r w1 H locs hQ V => ?_)
      obtain ⟨p1, p2, p3, p4, p5, p6, p7, p8, p9, rfl, rfl, f_14, f_15, f_16, f_17, f_18, f_19, f_20, f_21, f_22⟩ := hQ
      have V : gW D T A s [(o, .inr (7, [.ref n0, .ref s0, .ref im, .ref iz, .ref rw, .ref t0, .ref u0, .ref h0, .ref y0, sv])), (im, .inl (T 4, 2, .inr (.inr (.inr (.inr (va_up (va_up (fun _ => none) 0 (some v0)) 1 (some w0))))))), (iz, .inl (T 2, 2, .inl fz)), (v0, .inr (5, [.int (nI vn), .int vm, .int vl, .int vo, .int vu, .ref v1, .ref v2, .ref v3, .ref v4, .ref v5, .ref v6, .ref v7, .ref v8, .ref v9, .ref v10])), (v1, .inl (T 0, 10, .inl vf1)), (v2, .inl (T 0, 10, .inl vf2)), (v3, .inl (T 0, 10, .inl vf3)), (v4, .inl (T 0, 10, .inl vf4)), (v5, .inl (T 0, 10, .inl vf5)), (v6, .inl (T 0, 10, .inl vf6)), (v7, .inl (T 0, 10, .inl vf7)), (v8, .inl (T 0, 10, .inl vf8)), (v9, .inl (T 0, 10, .inl vf9)), (w0, .inr (5, [.int (nI nn), .int nm, .int nl, .int no, .int nu, .ref w1, .ref w2, .ref w3, .ref w4, .ref w5, .ref w6, .ref w7, .ref w8, .ref w9, .ref w10])), (w1, .inl (T 0, 10, .inl p1)), (w2, .inl (T 0, 10, .inl p2)), (w3, .inl (T 0, 10, .inl p3)), (w4, .inl (T 0, 10, .inl p4)), (w5, .inl (T 0, 10, .inl p5)), (w6, .inl (T 0, 10, .inl p6)), (w7, .inl (T 0, 10, .inl p7)), (w8, .inl (T 0, 10, .inl p8)), (w9, .inl (T 0, 10, .inl p9)), (n0, .inr (5, [.int (nI nn), .int nm, .int nl, .int no, .int nu, .ref n1, .ref n2, .ref n3, .ref n4, .ref n5, .ref n6, .ref n7, .ref n8, .ref n9, .ref n10])), (n1, .inl (T 0, 10, .inl nf1)), (n2, .inl (T 0, 10, .inl nf2)), (n3, .inl (T 0, 10, .inl nf3)), (n4, .inl (T 0, 10, .inl nf4)), (n5, .inl (T 0, 10, .inl nf5)), (n6, .inl (T 0, 10, .inl nf6)), (n7, .inl (T 0, 10, .inl nf7)), (n8, .inl (T 0, 10, .inl nf8)), (n9, .inl (T 0, 10, .inl nf9))] H locs := V _ [13, 0, 0, 0, 0, 0, 0, 0, 0, 0, 0, 0, 0, 0, 0, 0, 0, 0, 0, 0] rfl rfl rfl (by decide +kernel) rfl
      show W p l e _ s m args below meth c H locs _ _ _ (F0 m 23 ls [])
      have hp9 : ∀ i, i < nn → bd (p9 i) nn := fun i h => by rw [f_22 i h]; exact h_t i h
      refine lv_aload_n hx hb dX7_image_23 rfl (lv_at hl 0 rfl) ?_
      refine g_get hC V (ci := 7) uwX7 0 rfl rfl 3 (by decide) w_252 rfl rfl dX7_image_24 ?_
      refine lv_iload_n hx hb dX7_image_27 rfl (lv_at hl 1 rfl) ?_
      refine lv_iconst (v := (nI 1)) hx hb dX7_image_28 (by decide +kernel) ?_
      refine g_zast hC V 2 rfl (vp_in_nI (by decide) (by decide)) (f' := (upd fz 1 (vp_nar .boolean (nI 1)))) (by rw [nI_clamp (by decide)]) (ws' := [(o, .inr (7, [.ref n0, .ref s0, .ref im, .ref iz, .ref rw, .ref t0, .ref u0, .ref h0, .ref y0, sv])), (im, .inl (T 4, 2, .inr (.inr (.inr (.inr (va_up (va_up (fun _ => none) 0 (some v0)) 1 (some w0))))))), (iz, .inl (T 2, 2, .inl (upd fz 1 (vp_nar .boolean (nI 1))))), (v0, .inr (5, [.int (nI vn), .int vm, .int vl, .int vo, .int vu, .ref v1, .ref v2, .ref v3, .ref v4, .ref v5, .ref v6, .ref v7, .ref v8, .ref v9, .ref v10])), (v1, .inl (T 0, 10, .inl vf1)), (v2, .inl (T 0, 10, .inl vf2)), (v3, .inl (T 0, 10, .inl vf3)), (v4, .inl (T 0, 10, .inl vf4)), (v5, .inl (T 0, 10, .inl vf5)), (v6, .inl (T 0, 10, .inl vf6)), (v7, .inl (T 0, 10, .inl vf7)), (v8, .inl (T 0, 10, .inl vf8)), (v9, .inl (T 0, 10, .inl vf9)), (w0, .inr (5, [.int (nI nn), .int nm, .int nl, .int no, .int nu, .ref w1, .ref w2, .ref w3, .ref w4, .ref w5, .ref w6, .ref w7, .ref w8, .ref w9, .ref w10])), (w1, .inl (T 0, 10, .inl p1)), (w2, .inl (T 0, 10, .inl p2)), (w3, .inl (T 0, 10, .inl p3)), (w4, .inl (T 0, 10, .inl p4)), (w5, .inl (T 0, 10, .inl p5)), (w6, .inl (T 0, 10, .inl p6)), (w7, .inl (T 0, 10, .inl p7)), (w8, .inl (T 0, 10, .inl p8)), (w9, .inl (T 0, 10, .inl p9)), (n0, .inr (5, [.int (nI nn), .int nm, .int nl, .int no, .int nu, .ref n1, .ref n2, .ref n3, .ref n4, .ref n5, .ref n6, .ref n7, .ref n8, .ref n9, .ref n10])), (n1, .inl (T 0, 10, .inl nf1)), (n2, .inl (T 0, 10, .inl nf2)), (n3, .inl (T 0, 10, .inl nf3)), (n4, .inl (T 0, 10, .inl nf4)), (n5, .inl (T 0, 10, .inl nf5)), (n6, .inl (T 0, 10, .inl nf6)), (n7, .inl (T 0, 10, .inl nf7)), (n8, .inl (T 0, 10, .inl nf8)), (n9, .inl (T 0, 10, .inl nf9))]) rfl dX7_image_29 (fun H locs V => ?_)
      refine lv_iconst (v := (nI 0)) hx hb dX7_image_30 (by decide +kernel) ?_
      exact g_iret (Qr := (q_x_image_g T fa o i n0 s0 im iz rw t0 u0 h0 y0 sv v0 w0 fz vn vm vl vo vu v1 v2 v3 v4 v5 v6 v7 v8 v9 v10 vf1 vf2 vf3 vf4 vf5 vf6 vf7 vf8 vf9 wn wm wl wo wu w1 w2 w3 w4 w5 w6 w7 w8 w9 w10 wf1 wf2 wf3 wf4 wf5 wf6 wf7 wf8 wf9 nn nm nl no nu n1 n2 n3 n4 n5 n6 n7 n8 n9 n10 nf1 nf2 nf3 nf4 nf5 nf6 nf7 nf8 nf9)) hC V ⟨(Nat.le_of_ble_eq_true rfl), (Nat.le_of_ble_eq_true rfl)⟩ ⟨(nI 0), (upd fz 1 (vp_nar .boolean (nI 1))), vm, vl, vo, vu, nm, nl, no, nu, vn, nn, vf1, vf2, vf3, vf4, vf5, vf6, vf7, vf8, vf9, p1, p2, p3, p4, p5, p6, p7, p8, p9, rfl, rfl, (iw_2 (by assumption) (by assumption)), h_nv, h_tv, h_n, hp9, (iz_1 (by assumption)), (IM_old h_nv h_m0 (up_other (by decide)) (imF_10 (by assumption))), (IM_new h_n (SR_cp h_sr f_14 f_15 f_16 f_17 f_18 f_19 f_20 f_22) h_mn (imF_11 (by assumption)))⟩ dX7_image_31
  · have V : gW D T A s [(o, .inr (7, [.ref n0, .ref s0, .ref im, .ref iz, .ref rw, .ref t0, .ref u0, .ref h0, .ref y0, sv])), (im, .inl (T 4, 2, .inr (.inr (.inr (.inr (va_up (va_up (fun _ => none) 0 (some v0)) 1 (some w0))))))), (iz, .inl (T 2, 2, .inl fz)), (v0, .inr (5, [.int (nI vn), .int vm, .int vl, .int vo, .int vu, .ref v1, .ref v2, .ref v3, .ref v4, .ref v5, .ref v6, .ref v7, .ref v8, .ref v9, .ref v10])), (v1, .inl (T 0, 10, .inl vf1)), (v2, .inl (T 0, 10, .inl vf2)), (v3, .inl (T 0, 10, .inl vf3)), (v4, .inl (T 0, 10, .inl vf4)), (v5, .inl (T 0, 10, .inl vf5)), (v6, .inl (T 0, 10, .inl vf6)), (v7, .inl (T 0, 10, .inl vf7)), (v8, .inl (T 0, 10, .inl vf8)), (v9, .inl (T 0, 10, .inl vf9)), (w0, .inr (5, [.int (nI wn), .int wm, .int wl, .int wo, .int wu, .ref w1, .ref w2, .ref w3, .ref w4, .ref w5, .ref w6, .ref w7, .ref w8, .ref w9, .ref w10])), (w1, .inl (T 0, 10, .inl wf1)), (w2, .inl (T 0, 10, .inl wf2)), (w3, .inl (T 0, 10, .inl wf3)), (w4, .inl (T 0, 10, .inl wf4)), (w5, .inl (T 0, 10, .inl wf5)), (w6, .inl (T 0, 10, .inl wf6)), (w7, .inl (T 0, 10, .inl wf7)), (w8, .inl (T 0, 10, .inl wf8)), (w9, .inl (T 0, 10, .inl wf9)), (n0, .inr (5, [.int (nI nn), .int nm, .int nl, .int no, .int nu, .ref n1, .ref n2, .ref n3, .ref n4, .ref n5, .ref n6, .ref n7, .ref n8, .ref n9, .ref n10])), (n1, .inl (T 0, 10, .inl nf1)), (n2, .inl (T 0, 10, .inl nf2)), (n3, .inl (T 0, 10, .inl nf3)), (n4, .inl (T 0, 10, .inl nf4)), (n5, .inl (T 0, 10, .inl nf5)), (n6, .inl (T 0, 10, .inl nf6)), (n7, .inl (T 0, 10, .inl nf7)), (n8, .inl (T 0, 10, .inl nf8)), (n9, .inl (T 0, 10, .inl nf9))] H locs := V _ [] rfl rfl rfl (by decide +kernel) rfl
    show W p l e _ s m args below meth c H locs _ _ _ (F0 m 4 ls [.int (nI 0)])
    refine lv_if_ne (tgt := 10) hx hb dX7_image_4 (by decide) (fun c => absurd (show (nI 0) = 0 by decide +kernel) c) (fun _ => ?_)
    refine lv_bipush (v := (-2)) hx hb dX7_image_7 (by decide +kernel) ?_
    exact g_iret (Qr := (q_x_image_g T fa o i n0 s0 im iz rw t0 u0 h0 y0 sv v0 w0 fz vn vm vl vo vu v1 v2 v3 v4 v5 v6 v7 v8 v9 v10 vf1 vf2 vf3 vf4 vf5 vf6 vf7 vf8 vf9 wn wm wl wo wu w1 w2 w3 w4 w5 w6 w7 w8 w9 w10 wf1 wf2 wf3 wf4 wf5 wf6 wf7 wf8 wf9 nn nm nl no nu n1 n2 n3 n4 n5 n6 n7 n8 n9 n10 nf1 nf2 nf3 nf4 nf5 nf6 nf7 nf8 nf9)) hC V ⟨(Nat.le_of_ble_eq_true rfl), (Nat.le_of_ble_eq_true rfl)⟩ ⟨(-2), fz, vm, vl, vo, vu, wm, wl, wo, wu, vn, wn, vf1, vf2, vf3, vf4, vf5, vf6, vf7, vf8, vf9, wf1, wf2, wf3, wf4, wf5, wf6, wf7, wf8, wf9, rfl, rfl, (iw_1 (by assumption)), h_nv, h_tv, h_nw, h_tw, (iz_o (by assumption)), (by rw [← imF_o (by assumption)]; exact h_m0), (by rw [← imF_o (by assumption)]; exact h_m1)⟩ dX7_image_9

def q_x_restore_g (T : Nat → ClassId) (fa : Nat → Int32) (o : Nat) (i : Int32) (n0 : Nat) (s0 : Nat) (im : Nat) (iz : Nat) (rw : Nat) (t0 : Nat) (u0 : Nat) (h0 : Nat) (y0 : Nat) (sv : Value) (v0 : Nat) (w0 : Nat) (fz : Nat → Int32) (vn : Nat) (vm : Int32) (vl : Int32) (vo : Int32) (vu : Int32) (v1 : Nat) (v2 : Nat) (v3 : Nat) (v4 : Nat) (v5 : Nat) (v6 : Nat) (v7 : Nat) (v8 : Nat) (v9 : Nat) (v10 : Nat) (vf1 : Nat → Int32) (vf2 : Nat → Int32) (vf3 : Nat → Int32) (vf4 : Nat → Int32) (vf5 : Nat → Int32) (vf6 : Nat → Int32) (vf7 : Nat → Int32) (vf8 : Nat → Int32) (vf9 : Nat → Int32) (wn : Nat) (wm : Int32) (wl : Int32) (wo : Int32) (wu : Int32) (w1 : Nat) (w2 : Nat) (w3 : Nat) (w4 : Nat) (w5 : Nat) (w6 : Nat) (w7 : Nat) (w8 : Nat) (w9 : Nat) (w10 : Nat) (wf1 : Nat → Int32) (wf2 : Nat → Int32) (wf3 : Nat → Int32) (wf4 : Nat → Int32) (wf5 : Nat → Int32) (wf6 : Nat → Int32) (wf7 : Nat → Int32) (wf8 : Nat → Int32) (wf9 : Nat → Int32) (nn : Nat) (nm : Int32) (nl : Int32) (no : Int32) (nu : Int32) (n1 : Nat) (n2 : Nat) (n3 : Nat) (n4 : Nat) (n5 : Nat) (n6 : Nat) (n7 : Nat) (n8 : Nat) (n9 : Nat) (n10 : Nat) (nf1 : Nat → Int32) (nf2 : Nat → Int32) (nf3 : Nat → Int32) (nf4 : Nat → Int32) (nf5 : Nat → Int32) (nf6 : Nat → Int32) (nf7 : Nat → Int32) (nf8 : Nat → Int32) (nf9 : Nat → Int32) : Option Value → va_W → Prop := fun rr ww => (∃ (z : Int32) (nN : Nat) (nM : Int32) (nL : Int32) (nO : Int32) (nU : Int32) (ng1 : Nat → Int32) (ng2 : Nat → Int32) (ng3 : Nat → Int32) (ng4 : Nat → Int32) (ng5 : Nat → Int32) (ng6 : Nat → Int32) (ng7 : Nat → Int32) (ng8 : Nat → Int32) (ng9 : Nat → Int32), rr = some (.int z) ∧ ww = [(o, .inr (7, [.ref n0, .ref s0, .ref im, .ref iz, .ref rw, .ref t0, .ref u0, .ref h0, .ref y0, sv])), (im, .inl (T 4, 2, .inr (.inr (.inr (.inr (va_up (va_up (fun _ => none) 0 (some v0)) 1 (some w0))))))), (iz, .inl (T 2, 2, .inl fz)), (v0, .inr (5, [.int (nI vn), .int vm, .int vl, .int vo, .int vu, .ref v1, .ref v2, .ref v3, .ref v4, .ref v5, .ref v6, .ref v7, .ref v8, .ref v9, .ref v10])), (v1, .inl (T 0, 10, .inl vf1)), (v2, .inl (T 0, 10, .inl vf2)), (v3, .inl (T 0, 10, .inl vf3)), (v4, .inl (T 0, 10, .inl vf4)), (v5, .inl (T 0, 10, .inl vf5)), (v6, .inl (T 0, 10, .inl vf6)), (v7, .inl (T 0, 10, .inl vf7)), (v8, .inl (T 0, 10, .inl vf8)), (v9, .inl (T 0, 10, .inl vf9)), (w0, .inr (5, [.int (nI wn), .int wm, .int wl, .int wo, .int wu, .ref w1, .ref w2, .ref w3, .ref w4, .ref w5, .ref w6, .ref w7, .ref w8, .ref w9, .ref w10])), (w1, .inl (T 0, 10, .inl wf1)), (w2, .inl (T 0, 10, .inl wf2)), (w3, .inl (T 0, 10, .inl wf3)), (w4, .inl (T 0, 10, .inl wf4)), (w5, .inl (T 0, 10, .inl wf5)), (w6, .inl (T 0, 10, .inl wf6)), (w7, .inl (T 0, 10, .inl wf7)), (w8, .inl (T 0, 10, .inl wf8)), (w9, .inl (T 0, 10, .inl wf9)), (n0, .inr (5, [.int (nI nN), .int nM, .int nL, .int nO, .int nU, .ref n1, .ref n2, .ref n3, .ref n4, .ref n5, .ref n6, .ref n7, .ref n8, .ref n9, .ref n10])), (n1, .inl (T 0, 10, .inl ng1)), (n2, .inl (T 0, 10, .inl ng2)), (n3, .inl (T 0, 10, .inl ng3)), (n4, .inl (T 0, 10, .inl ng4)), (n5, .inl (T 0, 10, .inl ng5)), (n6, .inl (T 0, 10, .inl ng6)), (n7, .inl (T 0, 10, .inl ng7)), (n8, .inl (T 0, 10, .inl ng8)), (n9, .inl (T 0, 10, .inl ng9))] ∧ nN ≤ 10 ∧ (∀ i, i < nN → bd (ng9 i) nN) ∧ z = resWhy i (fz 0) (fz 1) ∧ SR nN nM nL nO ng1 ng2 ng3 ng4 ng5 ng6 ng7 ng9 (resF i fa (fz 0) (fz 1)) ∧ bd ((resF i fa (fz 0) (fz 1)) 1) 10000)
set_option maxHeartbeats 4000000 in
set_option maxRecDepth 100000 in
theorem x_restore_g (l : Launch) (D : va_G) (T : Nat → ClassId) (fa : Nat → Int32) (o : Nat) (i : Int32) (n0 : Nat) (s0 : Nat) (im : Nat) (iz : Nat) (rw : Nat) (t0 : Nat) (u0 : Nat) (h0 : Nat) (y0 : Nat) (sv : Value) (v0 : Nat) (w0 : Nat) (fz : Nat → Int32) (vn : Nat) (vm : Int32) (vl : Int32) (vo : Int32) (vu : Int32) (v1 : Nat) (v2 : Nat) (v3 : Nat) (v4 : Nat) (v5 : Nat) (v6 : Nat) (v7 : Nat) (v8 : Nat) (v9 : Nat) (v10 : Nat) (vf1 : Nat → Int32) (vf2 : Nat → Int32) (vf3 : Nat → Int32) (vf4 : Nat → Int32) (vf5 : Nat → Int32) (vf6 : Nat → Int32) (vf7 : Nat → Int32) (vf8 : Nat → Int32) (vf9 : Nat → Int32) (wn : Nat) (wm : Int32) (wl : Int32) (wo : Int32) (wu : Int32) (w1 : Nat) (w2 : Nat) (w3 : Nat) (w4 : Nat) (w5 : Nat) (w6 : Nat) (w7 : Nat) (w8 : Nat) (w9 : Nat) (w10 : Nat) (wf1 : Nat → Int32) (wf2 : Nat → Int32) (wf3 : Nat → Int32) (wf4 : Nat → Int32) (wf5 : Nat → Int32) (wf6 : Nat → Int32) (wf7 : Nat → Int32) (wf8 : Nat → Int32) (wf9 : Nat → Int32) (nn : Nat) (nm : Int32) (nl : Int32) (no : Int32) (nu : Int32) (n1 : Nat) (n2 : Nat) (n3 : Nat) (n4 : Nat) (n5 : Nat) (n6 : Nat) (n7 : Nat) (n8 : Nat) (n9 : Nat) (n10 : Nat) (nf1 : Nat → Int32) (nf2 : Nat → Int32) (nf3 : Nat → Int32) (nf4 : Nat → Int32) (nf5 : Nat → Int32) (nf6 : Nat → Int32) (nf7 : Nat → Int32) (nf8 : Nat → Int32) (nf9 : Nat → Int32) (h_n : nn ≤ 10) (h_t : ∀ i, i < nn → bd (nf9 i) nn) (h_nv : vn ≤ 10) (h_tv : ∀ i, i < vn → bd (vf9 i) vn) (h_nw : wn ≤ 10) (h_tw : ∀ i, i < wn → bd (wf9 i) wn) (h_sr : SR nn nm nl no nf1 nf2 nf3 nf4 nf5 nf6 nf7 nf9 fa) (h_mn : bd (fa 1) 10000) (h_m0 : IM (fz 0) vn vm vl vo vf1 vf2 vf3 vf4 vf5 vf6 vf7 vf9 (fun j => fa (94 + j))) (h_m1 : IM (fz 1) wn wm wl wo wf1 wf2 wf3 wf4 wf5 wf6 wf7 wf9 (fun j => fa (188 + j))) : Ct l yX7_restore cX7_restore 2 (some .int) 1 0 0 D T [.ref o, .int i] [(o, .inr (7, [.ref n0, .ref s0, .ref im, .ref iz, .ref rw, .ref t0, .ref u0, .ref h0, .ref y0, sv])), (im, .inl (T 4, 2, .inr (.inr (.inr (.inr (va_up (va_up (fun _ => none) 0 (some v0)) 1 (some w0))))))), (iz, .inl (T 2, 2, .inl fz)), (v0, .inr (5, [.int (nI vn), .int vm, .int vl, .int vo, .int vu, .ref v1, .ref v2, .ref v3, .ref v4, .ref v5, .ref v6, .ref v7, .ref v8, .ref v9, .ref v10])), (v1, .inl (T 0, 10, .inl vf1)), (v2, .inl (T 0, 10, .inl vf2)), (v3, .inl (T 0, 10, .inl vf3)), (v4, .inl (T 0, 10, .inl vf4)), (v5, .inl (T 0, 10, .inl vf5)), (v6, .inl (T 0, 10, .inl vf6)), (v7, .inl (T 0, 10, .inl vf7)), (v8, .inl (T 0, 10, .inl vf8)), (v9, .inl (T 0, 10, .inl vf9)), (w0, .inr (5, [.int (nI wn), .int wm, .int wl, .int wo, .int wu, .ref w1, .ref w2, .ref w3, .ref w4, .ref w5, .ref w6, .ref w7, .ref w8, .ref w9, .ref w10])), (w1, .inl (T 0, 10, .inl wf1)), (w2, .inl (T 0, 10, .inl wf2)), (w3, .inl (T 0, 10, .inl wf3)), (w4, .inl (T 0, 10, .inl wf4)), (w5, .inl (T 0, 10, .inl wf5)), (w6, .inl (T 0, 10, .inl wf6)), (w7, .inl (T 0, 10, .inl wf7)), (w8, .inl (T 0, 10, .inl wf8)), (w9, .inl (T 0, 10, .inl wf9)), (n0, .inr (5, [.int (nI nn), .int nm, .int nl, .int no, .int nu, .ref n1, .ref n2, .ref n3, .ref n4, .ref n5, .ref n6, .ref n7, .ref n8, .ref n9, .ref n10])), (n1, .inl (T 0, 10, .inl nf1)), (n2, .inl (T 0, 10, .inl nf2)), (n3, .inl (T 0, 10, .inl nf3)), (n4, .inl (T 0, 10, .inl nf4)), (n5, .inl (T 0, 10, .inl nf5)), (n6, .inl (T 0, 10, .inl nf6)), (n7, .inl (T 0, 10, .inl nf7)), (n8, .inl (T 0, 10, .inl nf8)), (n9, .inl (T 0, 10, .inl nf9))] (q_x_restore_g T fa o i n0 s0 im iz rw t0 u0 h0 y0 sv v0 w0 fz vn vm vl vo vu v1 v2 v3 v4 v5 v6 v7 v8 v9 v10 vf1 vf2 vf3 vf4 vf5 vf6 vf7 vf8 vf9 wn wm wl wo wu w1 w2 w3 w4 w5 w6 w7 w8 w9 w10 wf1 wf2 wf3 wf4 wf5 wf6 wf7 wf8 wf9 nn nm nl no nu n1 n2 n3 n4 n5 n6 n7 n8 n9 n10 nf1 nf2 nf3 nf4 nf5 nf6 nf7 nf8 nf9) := by
  refine Ct.of (cc := cX7_restore) (maxL := 2) (ret := (some .int)) (by decide) (Nat.le_of_ble_eq_true rfl) ?_
  intro p e s m args below meth c A ls hC hnm V hl
  obtain ⟨hx, hb, hr, hml, hown, hts, hlocks⟩ := id hC
  generalize hH : s.heap = H at V ⊢
  clear hH
  have hl : lv_has ls 2 [(0, .ref o), (1, .int i)] := hl
  generalize hlo : ([] : List Loc) = locs at V ⊢
  clear hlo
  refine lv_iload_n hx hb dX7_restore_0 rfl (lv_at hl 1 rfl) ?_
  refine g_callSU (nA := 1) hC V hl.1 (c_isImage l D T i) w_887 w_888 w_2 w_889 (by decide +kernel) rfl ⟨(Nat.le_of_ble_eq_true rfl), (Nat.le_of_ble_eq_true rfl)⟩ [] rfl rfl (Nat.le_of_ble_eq_true rfl) dX7_restore_1 ⟨(Nat.le_of_ble_eq_true rfl), (Nat.le_of_ble_eq_true rfl)⟩ rfl (fun r w1 H locs hQ V => ?_)
  rcases hQ with ⟨rfl, rfl, f_1, f_2⟩ | ⟨rfl, rfl, f_3⟩
  · have V : gW D T A s [(o, .inr (7, [.ref n0, .ref s0, .ref im, .ref iz, .ref rw, .ref t0, .ref u0, .ref h0, .ref y0, sv])), (im, .inl (T 4, 2, .inr (.inr (.inr (.inr (va_up (va_up (fun _ => none) 0 (some v0)) 1 (some w0))))))), (iz, .inl (T 2, 2, .inl fz)), (v0, .inr (5, [.int (nI vn), .int vm, .int vl, .int vo, .int vu, .ref v1, .ref v2, .ref v3, .ref v4, .ref v5, .ref v6, .ref v7, .ref v8, .ref v9, .ref v10])), (v1, .inl (T 0, 10, .inl vf1)), (v2, .inl (T 0, 10, .inl vf2)), (v3, .inl (T 0, 10, .inl vf3)), (v4, .inl (T 0, 10, .inl vf4)), (v5, .inl (T 0, 10, .inl vf5)), (v6, .inl (T 0, 10, .inl vf6)), (v7, .inl (T 0, 10, .inl vf7)), (v8, .inl (T 0, 10, .inl vf8)), (v9, .inl (T 0, 10, .inl vf9)), (w0, .inr (5, [.int (nI wn), .int wm, .int wl, .int wo, .int wu, .ref w1, .ref w2, .ref w3, .ref w4, .ref w5, .ref w6, .ref w7, .ref w8, .ref w9, .ref w10])), (w1, .inl (T 0, 10, .inl wf1)), (w2, .inl (T 0, 10, .inl wf2)), (w3, .inl (T 0, 10, .inl wf3)), (w4, .inl (T 0, 10, .inl wf4)), (w5, .inl (T 0, 10, .inl wf5)), (w6, .inl (T 0, 10, .inl wf6)), (w7, .inl (T 0, 10, .inl wf7)), (w8, .inl (T 0, 10, .inl wf8)), (w9, .inl (T 0, 10, .inl wf9)), (n0, .inr (5, [.int (nI nn), .int nm, .int nl, .int no, .int nu, .ref n1, .ref n2, .ref n3, .ref n4, .ref n5, .ref n6, .ref n7, .ref n8, .ref n9, .ref n10])), (n1, .inl (T 0, 10, .inl nf1)), (n2, .inl (T 0, 10, .inl nf2)), (n3, .inl (T 0, 10, .inl nf3)), (n4, .inl (T 0, 10, .inl nf4)), (n5, .inl (T 0, 10, .inl nf5)), (n6, .inl (T 0, 10, .inl nf6)), (n7, .inl (T 0, 10, .inl nf7)), (n8, .inl (T 0, 10, .inl nf8)), (n9, .inl (T 0, 10, .inl nf9))] H locs := V _ [] rfl rfl rfl (by decide +kernel) rfl
    show W p l e _ s m args below meth c H locs _ _ _ (F0 m 4 ls [.int (nI 1)])
    obtain ⟨j_4, hj_4, ej_4⟩ := g_idx (n := 2) (by decide) f_1 f_2
    rw [ej_4] at hl
    have hj_4 : j_4 = 0 ∨ j_4 = 1 := by omega
    rcases hj_4 with rfl | rfl
    · skip
      refine lv_if_ne (tgt := 10) hx hb dX7_restore_4 (by decide) (fun _ => ?_) (fun c => absurd (show (nI 1) = 0 from c) (by decide +kernel))
      refine lv_aload_n hx hb dX7_restore_10 rfl (lv_at hl 0 rfl) ?_
      refine g_get hC V (ci := 7) uwX7 0 rfl rfl 3 (by decide) w_252 rfl rfl dX7_restore_11 ?_
      refine lv_iload_n hx hb dX7_restore_14 rfl (lv_at hl 1 rfl) ?_
      refine g_zald hC V 2 rfl (vp_in_nI (by decide) (by decide)) (v := (fz 0)) (congrArg _ (nI_clamp (by decide))) dX7_restore_15 ?_
      refine lv_if_ne (tgt := 22) hx hb dX7_restore_16 (by decide) (fun c_5 => ?_) (fun c_5 => ?_)
      · skip
        refine lv_aload_n hx hb dX7_restore_22 rfl (lv_at hl 0 rfl) ?_
        refine g_get hC V (ci := 7) uwX7 0 rfl rfl 0 (by decide) w_249 rfl rfl dX7_restore_23 ?_
        refine lv_aload_n hx hb dX7_restore_26 rfl (lv_at hl 0 rfl) ?_
        refine g_get hC V (ci := 7) uwX7 0 rfl rfl 2 (by decide) w_251 rfl rfl dX7_restore_27 ?_
        refine lv_iload_n hx hb dX7_restore_30 rfl (lv_at hl 1 rfl) ?_
        refine g_aald hC V 1 4 rfl rfl (vp_in_nI (by decide) (by decide)) (v := .ref v0) (by rw [nI_clamp (by decide)]; rfl) dX7_restore_31 ?_
        refine g_callVU (nA := 1) hC V hl.1 (s_takeFrom l D T n0 v0 (nI nn) nm nl no nu n1 n2 n3 n4 n5 n6 n7 n8 n9 n10 nf1 nf2 nf3 nf4 nf5 nf6 nf7 nf8 nf9 vn vm vl vo vu v1 v2 v3 v4 v5 v6 v7 v8 v9 v10 vf1 vf2 vf3 vf4 vf5 vf6 vf7 vf8 vf9 (by assumption)) w_413 w_414 w_415 w_3 w_416 (by decide +kernel) rfl ⟨(Nat.le_of_ble_eq_true rfl), (Nat.le_of_ble_eq_true rfl)⟩ 23 (ci := 5) rfl rfl [23, 24, 25, 26, 27, 28, 29, 30, 31, 32, 3, 4, 5, 6, 7, 8, 9, 10, 11, 12] rfl rfl (Nat.le_of_ble_eq_true rfl) dX7_restore_32 ⟨(Nat.le_of_ble_eq_true rfl), (Nat.le_of_ble_eq_true rfl)⟩ rfl (fun r w1 H locs hQ V => ?_)
        obtain ⟨p1, p2, p3, p4, p5, p6, p7, p8, p9, rfl, rfl, f_6, f_7, f_8, f_9, f_10, f_11, f_12, f_13, f_14⟩ := hQ
        have V : gW D T A s [(o, .inr (7, [.ref n0, .ref s0, .ref im, .ref iz, .ref rw, .ref t0, .ref u0, .ref h0, .ref y0, sv])), (im, .inl (T 4, 2, .inr (.inr (.inr (.inr (va_up (va_up (fun _ => none) 0 (some v0)) 1 (some w0))))))), (iz, .inl (T 2, 2, .inl fz)), (v0, .inr (5, [.int (nI vn), .int vm, .int vl, .int vo, .int vu, .ref v1, .ref v2, .ref v3, .ref v4, .ref v5, .ref v6, .ref v7, .ref v8, .ref v9, .ref v10])), (v1, .inl (T 0, 10, .inl vf1)), (v2, .inl (T 0, 10, .inl vf2)), (v3, .inl (T 0, 10, .inl vf3)), (v4, .inl (T 0, 10, .inl vf4)), (v5, .inl (T 0, 10, .inl vf5)), (v6, .inl (T 0, 10, .inl vf6)), (v7, .inl (T 0, 10, .inl vf7)), (v8, .inl (T 0, 10, .inl vf8)), (v9, .inl (T 0, 10, .inl vf9)), (w0, .inr (5, [.int (nI wn), .int wm, .int wl, .int wo, .int wu, .ref w1, .ref w2, .ref w3, .ref w4, .ref w5, .ref w6, .ref w7, .ref w8, .ref w9, .ref w10])), (w1, .inl (T 0, 10, .inl wf1)), (w2, .inl (T 0, 10, .inl wf2)), (w3, .inl (T 0, 10, .inl wf3)), (w4, .inl (T 0, 10, .inl wf4)), (w5, .inl (T 0, 10, .inl wf5)), (w6, .inl (T 0, 10, .inl wf6)), (w7, .inl (T 0, 10, .inl wf7)), (w8, .inl (T 0, 10, .inl wf8)), (w9, .inl (T 0, 10, .inl wf9)), (n0, .inr (5, [.int (nI vn), .int vm, .int vl, .int vo, .int vu, .ref n1, .ref n2, .ref n3, .ref n4, .ref n5, .ref n6, .ref n7, .ref n8, .ref n9, .ref n10])), (n1, .inl (T 0, 10, .inl p1)), (n2, .inl (T 0, 10, .inl p2)), (n3, .inl (T 0, 10, .inl p3)), (n4, .inl (T 0, 10, .inl p4)), (n5, .inl (T 0, 10, .inl p5)), (n6, .inl (T 0, 10, .inl p6)), (n7, .inl (T 0, 10, .inl p7)), (n8, .inl (T 0, 10, .inl p8)), (n9, .inl (T 0, 10, .inl p9))] H locs := V _ [3, 0, 0, 0, 0, 0, 0, 0, 0, 0, 10, 0, 0, 0, 0, 0, 0, 0, 0, 0] rfl rfl rfl (by decide +kernel) rfl
        show W p l e _ s m args below meth c H locs _ _ _ (F0 m 35 ls [])
        have hp9 : ∀ i, i < vn → bd (p9 i) vn := fun i h => by rw [f_14 i h]; exact h_tv i h
        refine lv_iconst (v := (nI 0)) hx hb dX7_restore_35 (by decide +kernel) ?_
        exact g_iret (Qr := (q_x_restore_g T fa o i n0 s0 im iz rw t0 u0 h0 y0 sv v0 w0 fz vn vm vl vo vu v1 v2 v3 v4 v5 v6 v7 v8 v9 v10 vf1 vf2 vf3 vf4 vf5 vf6 vf7 vf8 vf9 wn wm wl wo wu w1 w2 w3 w4 w5 w6 w7 w8 w9 w10 wf1 wf2 wf3 wf4 wf5 wf6 wf7 wf8 wf9 nn nm nl no nu n1 n2 n3 n4 n5 n6 n7 n8 n9 n10 nf1 nf2 nf3 nf4 nf5 nf6 nf7 nf8 nf9)) hC V ⟨(Nat.le_of_ble_eq_true rfl), (Nat.le_of_ble_eq_true rfl)⟩ ⟨(nI 0), vn, vm, vl, vo, vu, p1, p2, p3, p4, p5, p6, p7, p8, p9, rfl, rfl, (by assumption), hp9, (by first | exact rs_0a (by assumption) (by assumption) | exact rs_0b (by assumption) (by assumption)), (SR_ext (by assumption) (SR_cp (h_m0 (by assumption)).1 f_6 f_7 f_8 f_9 f_10 f_11 f_12 f_14) (resF_a (by first | exact rs_0a (by assumption) (by assumption) | exact rs_0b (by assumption) (by assumption)) (by assumption))), (by rw [resF_a (by first | exact rs_0a (by assumption) (by assumption) | exact rs_0b (by assumption) (by assumption)) (by assumption) 1 (by decide)]; exact (h_m0 (by assumption)).2)⟩ dX7_restore_36
      · skip
        refine lv_bipush (v := (-5)) hx hb dX7_restore_19 (by decide +kernel) ?_
        exact g_iret (Qr := (q_x_restore_g T fa o i n0 s0 im iz rw t0 u0 h0 y0 sv v0 w0 fz vn vm vl vo vu v1 v2 v3 v4 v5 v6 v7 v8 v9 v10 vf1 vf2 vf3 vf4 vf5 vf6 vf7 vf8 vf9 wn wm wl wo wu w1 w2 w3 w4 w5 w6 w7 w8 w9 w10 wf1 wf2 wf3 wf4 wf5 wf6 wf7 wf8 wf9 nn nm nl no nu n1 n2 n3 n4 n5 n6 n7 n8 n9 n10 nf1 nf2 nf3 nf4 nf5 nf6 nf7 nf8 nf9)) hC V ⟨(Nat.le_of_ble_eq_true rfl), (Nat.le_of_ble_eq_true rfl)⟩ ⟨(-5), nn, nm, nl, no, nu, nf1, nf2, nf3, nf4, nf5, nf6, nf7, nf8, nf9, rfl, rfl, h_n, h_t, (by first | exact rs_5a (by assumption) (by assumption) | exact rs_5b (by assumption) (by assumption)), (by rw [← resF_n (z := -5) (by first | exact rs_5a (by assumption) (by assumption) | exact rs_5b (by assumption) (by assumption)) m5_0]; exact h_sr), (by rw [← resF_n (z := -5) (by first | exact rs_5a (by assumption) (by assumption) | exact rs_5b (by assumption) (by assumption)) m5_0]; exact h_mn)⟩ dX7_restore_21
    · skip
      refine lv_if_ne (tgt := 10) hx hb dX7_restore_4 (by decide) (fun _ => ?_) (fun c => absurd (show (nI 1) = 0 from c) (by decide +kernel))
      refine lv_aload_n hx hb dX7_restore_10 rfl (lv_at hl 0 rfl) ?_
      refine g_get hC V (ci := 7) uwX7 0 rfl rfl 3 (by decide) w_252 rfl rfl dX7_restore_11 ?_
      refine lv_iload_n hx hb dX7_restore_14 rfl (lv_at hl 1 rfl) ?_
      refine g_zald hC V 2 rfl (vp_in_nI (by decide) (by decide)) (v := (fz 1)) (congrArg _ (nI_clamp (by decide))) dX7_restore_15 ?_
      refine lv_if_ne (tgt := 22) hx hb dX7_restore_16 (by decide) (fun c_15 => ?_) (fun c_15 => ?_)
      · skip
        refine lv_aload_n hx hb dX7_restore_22 rfl (lv_at hl 0 rfl) ?_
        refine g_get hC V (ci := 7) uwX7 0 rfl rfl 0 (by decide) w_249 rfl rfl dX7_restore_23 ?_
        refine lv_aload_n hx hb dX7_restore_26 rfl (lv_at hl 0 rfl) ?_
        refine g_get hC V (ci := 7) uwX7 0 rfl rfl 2 (by decide) w_251 rfl rfl dX7_restore_27 ?_
        refine lv_iload_n hx hb dX7_restore_30 rfl (lv_at hl 1 rfl) ?_
        refine g_aald hC V 1 4 rfl rfl (vp_in_nI (by decide) (by decide)) (v := .ref w0) (by rw [nI_clamp (by decide)]; rfl) dX7_restore_31 ?_
        refine g_callVU (nA := 1) hC V hl.1 (s_takeFrom l D T n0 w0 (nI nn) nm nl no nu n1 n2 n3 n4 n5 n6 n7 n8 n9 n10 nf1 nf2 nf3 nf4 nf5 nf6 nf7 nf8 nf9 wn wm wl wo wu w1 w2 w3 w4 w5 w6 w7 w8 w9 w10 wf1 wf2 wf3 wf4 wf5 wf6 wf7 wf8 wf9 (by assumption)) w_413 w_414 w_415 w_3 w_416 (by decide +kernel) rfl ⟨(Nat.le_of_ble_eq_true rfl), (Nat.le_of_ble_eq_true rfl)⟩ 23 (ci := 5) rfl rfl [23, 24, 25, 26, 27, 28, 29, 30, 31, 32, 13, 14, 15, 16, 17, 18, 19, 20, 21, 22] rfl rfl (Nat.le_of_ble_eq_true rfl) dX7_restore_32 ⟨(Nat.le_of_ble_eq_true rfl), (Nat.le_of_ble_eq_true rfl)⟩ rfl (fun r w1 H locs hQ V => ?_)
        obtain ⟨p1, p2, p3, p4, p5, p6, p7, p8, p9, rfl, rfl, f_16, f_17, f_18, f_19, f_20, f_21, f_22, f_23, f_24⟩ := hQ
        have V : gW D T A s [(o, .inr (7, [.ref n0, .ref s0, .ref im, .ref iz, .ref rw, .ref t0, .ref u0, .ref h0, .ref y0, sv])), (im, .inl (T 4, 2, .inr (.inr (.inr (.inr (va_up (va_up (fun _ => none) 0 (some v0)) 1 (some w0))))))), (iz, .inl (T 2, 2, .inl fz)), (v0, .inr (5, [.int (nI vn), .int vm, .int vl, .int vo, .int vu, .ref v1, .ref v2, .ref v3, .ref v4, .ref v5, .ref v6, .ref v7, .ref v8, .ref v9, .ref v10])), (v1, .inl (T 0, 10, .inl vf1)), (v2, .inl (T 0, 10, .inl vf2)), (v3, .inl (T 0, 10, .inl vf3)), (v4, .inl (T 0, 10, .inl vf4)), (v5, .inl (T 0, 10, .inl vf5)), (v6, .inl (T 0, 10, .inl vf6)), (v7, .inl (T 0, 10, .inl vf7)), (v8, .inl (T 0, 10, .inl vf8)), (v9, .inl (T 0, 10, .inl vf9)), (w0, .inr (5, [.int (nI wn), .int wm, .int wl, .int wo, .int wu, .ref w1, .ref w2, .ref w3, .ref w4, .ref w5, .ref w6, .ref w7, .ref w8, .ref w9, .ref w10])), (w1, .inl (T 0, 10, .inl wf1)), (w2, .inl (T 0, 10, .inl wf2)), (w3, .inl (T 0, 10, .inl wf3)), (w4, .inl (T 0, 10, .inl wf4)), (w5, .inl (T 0, 10, .inl wf5)), (w6, .inl (T 0, 10, .inl wf6)), (w7, .inl (T 0, 10, .inl wf7)), (w8, .inl (T 0, 10, .inl wf8)), (w9, .inl (T 0, 10, .inl wf9)), (n0, .inr (5, [.int (nI wn), .int wm, .int wl, .int wo, .int wu, .ref n1, .ref n2, .ref n3, .ref n4, .ref n5, .ref n6, .ref n7, .ref n8, .ref n9, .ref n10])), (n1, .inl (T 0, 10, .inl p1)), (n2, .inl (T 0, 10, .inl p2)), (n3, .inl (T 0, 10, .inl p3)), (n4, .inl (T 0, 10, .inl p4)), (n5, .inl (T 0, 10, .inl p5)), (n6, .inl (T 0, 10, .inl p6)), (n7, .inl (T 0, 10, .inl p7)), (n8, .inl (T 0, 10, .inl p8)), (n9, .inl (T 0, 10, .inl p9))] H locs := V _ [13, 0, 0, 0, 0, 0, 0, 0, 0, 0, 0, 0, 0, 0, 0, 0, 0, 0, 0, 0] rfl rfl rfl (by decide +kernel) rfl
        show W p l e _ s m args below meth c H locs _ _ _ (F0 m 35 ls [])
        have hp9 : ∀ i, i < wn → bd (p9 i) wn := fun i h => by rw [f_24 i h]; exact h_tw i h
        refine lv_iconst (v := (nI 0)) hx hb dX7_restore_35 (by decide +kernel) ?_
        exact g_iret (Qr := (q_x_restore_g T fa o i n0 s0 im iz rw t0 u0 h0 y0 sv v0 w0 fz vn vm vl vo vu v1 v2 v3 v4 v5 v6 v7 v8 v9 v10 vf1 vf2 vf3 vf4 vf5 vf6 vf7 vf8 vf9 wn wm wl wo wu w1 w2 w3 w4 w5 w6 w7 w8 w9 w10 wf1 wf2 wf3 wf4 wf5 wf6 wf7 wf8 wf9 nn nm nl no nu n1 n2 n3 n4 n5 n6 n7 n8 n9 n10 nf1 nf2 nf3 nf4 nf5 nf6 nf7 nf8 nf9)) hC V ⟨(Nat.le_of_ble_eq_true rfl), (Nat.le_of_ble_eq_true rfl)⟩ ⟨(nI 0), wn, wm, wl, wo, wu, p1, p2, p3, p4, p5, p6, p7, p8, p9, rfl, rfl, (by assumption), hp9, (by first | exact rs_0a (by assumption) (by assumption) | exact rs_0b (by assumption) (by assumption)), (SR_ext (by assumption) (SR_cp (h_m1 (by assumption)).1 f_16 f_17 f_18 f_19 f_20 f_21 f_22 f_24) (resF_b (by first | exact rs_0a (by assumption) (by assumption) | exact rs_0b (by assumption) (by assumption)) (by assumption))), (by rw [resF_b (by first | exact rs_0a (by assumption) (by assumption) | exact rs_0b (by assumption) (by assumption)) (by assumption) 1 (by decide)]; exact (h_m1 (by assumption)).2)⟩ dX7_restore_36
      · skip
        refine lv_bipush (v := (-5)) hx hb dX7_restore_19 (by decide +kernel) ?_
        exact g_iret (Qr := (q_x_restore_g T fa o i n0 s0 im iz rw t0 u0 h0 y0 sv v0 w0 fz vn vm vl vo vu v1 v2 v3 v4 v5 v6 v7 v8 v9 v10 vf1 vf2 vf3 vf4 vf5 vf6 vf7 vf8 vf9 wn wm wl wo wu w1 w2 w3 w4 w5 w6 w7 w8 w9 w10 wf1 wf2 wf3 wf4 wf5 wf6 wf7 wf8 wf9 nn nm nl no nu n1 n2 n3 n4 n5 n6 n7 n8 n9 n10 nf1 nf2 nf3 nf4 nf5 nf6 nf7 nf8 nf9)) hC V ⟨(Nat.le_of_ble_eq_true rfl), (Nat.le_of_ble_eq_true rfl)⟩ ⟨(-5), nn, nm, nl, no, nu, nf1, nf2, nf3, nf4, nf5, nf6, nf7, nf8, nf9, rfl, rfl, h_n, h_t, (by first | exact rs_5a (by assumption) (by assumption) | exact rs_5b (by assumption) (by assumption)), (by rw [← resF_n (z := -5) (by first | exact rs_5a (by assumption) (by assumption) | exact rs_5b (by assumption) (by assumption)) m5_0]; exact h_sr), (by rw [← resF_n (z := -5) (by first | exact rs_5a (by assumption) (by assumption) | exact rs_5b (by assumption) (by assumption)) m5_0]; exact h_mn)⟩ dX7_restore_21
  · have V : gW D T A s [(o, .inr (7, [.ref n0, .ref s0, .ref im, .ref iz, .ref rw, .ref t0, .ref u0, .ref h0, .ref y0, sv])), (im, .inl (T 4, 2, .inr (.inr (.inr (.inr (va_up (va_up (fun _ => none) 0 (some v0)) 1 (some w0))))))), (iz, .inl (T 2, 2, .inl fz)), (v0, .inr (5, [.int (nI vn), .int vm, .int vl, .int vo, .int vu, .ref v1, .ref v2, .ref v3, .ref v4, .ref v5, .ref v6, .ref v7, .ref v8, .ref v9, .ref v10])), (v1, .inl (T 0, 10, .inl vf1)), (v2, .inl (T 0, 10, .inl vf2)), (v3, .inl (T 0, 10, .inl vf3)), (v4, .inl (T 0, 10, .inl vf4)), (v5, .inl (T 0, 10, .inl vf5)), (v6, .inl (T 0, 10, .inl vf6)), (v7, .inl (T 0, 10, .inl vf7)), (v8, .inl (T 0, 10, .inl vf8)), (v9, .inl (T 0, 10, .inl vf9)), (w0, .inr (5, [.int (nI wn), .int wm, .int wl, .int wo, .int wu, .ref w1, .ref w2, .ref w3, .ref w4, .ref w5, .ref w6, .ref w7, .ref w8, .ref w9, .ref w10])), (w1, .inl (T 0, 10, .inl wf1)), (w2, .inl (T 0, 10, .inl wf2)), (w3, .inl (T 0, 10, .inl wf3)), (w4, .inl (T 0, 10, .inl wf4)), (w5, .inl (T 0, 10, .inl wf5)), (w6, .inl (T 0, 10, .inl wf6)), (w7, .inl (T 0, 10, .inl wf7)), (w8, .inl (T 0, 10, .inl wf8)), (w9, .inl (T 0, 10, .inl wf9)), (n0, .inr (5, [.int (nI nn), .int nm, .int nl, .int no, .int nu, .ref n1, .ref n2, .ref n3, .ref n4, .ref n5, .ref n6, .ref n7, .ref n8, .ref n9, .ref n10])), (n1, .inl (T 0, 10, .inl nf1)), (n2, .inl (T 0, 10, .inl nf2)), (n3, .inl (T 0, 10, .inl nf3)), (n4, .inl (T 0, 10, .inl nf4)), (n5, .inl (T 0, 10, .inl nf5)), (n6, .inl (T 0, 10, .inl nf6)), (n7, .inl (T 0, 10, .inl nf7)), (n8, .inl (T 0, 10, .inl nf8)), (n9, .inl (T 0, 10, .inl nf9))] H locs := V _ [] rfl rfl rfl (by decide +kernel) rfl
    show W p l e _ s m args below meth c H locs _ _ _ (F0 m 4 ls [.int (nI 0)])
    refine lv_if_ne (tgt := 10) hx hb dX7_restore_4 (by decide) (fun c => absurd (show (nI 0) = 0 by decide +kernel) c) (fun _ => ?_)
    refine lv_bipush (v := (-2)) hx hb dX7_restore_7 (by decide +kernel) ?_
    exact g_iret (Qr := (q_x_restore_g T fa o i n0 s0 im iz rw t0 u0 h0 y0 sv v0 w0 fz vn vm vl vo vu v1 v2 v3 v4 v5 v6 v7 v8 v9 v10 vf1 vf2 vf3 vf4 vf5 vf6 vf7 vf8 vf9 wn wm wl wo wu w1 w2 w3 w4 w5 w6 w7 w8 w9 w10 wf1 wf2 wf3 wf4 wf5 wf6 wf7 wf8 wf9 nn nm nl no nu n1 n2 n3 n4 n5 n6 n7 n8 n9 n10 nf1 nf2 nf3 nf4 nf5 nf6 nf7 nf8 nf9)) hC V ⟨(Nat.le_of_ble_eq_true rfl), (Nat.le_of_ble_eq_true rfl)⟩ ⟨(-2), nn, nm, nl, no, nu, nf1, nf2, nf3, nf4, nf5, nf6, nf7, nf8, nf9, rfl, rfl, h_n, h_t, (rs_o (by assumption)), (by rw [← resF_n (z := -2) (rs_o (by assumption)) m2_0]; exact h_sr), (by rw [← resF_n (z := -2) (rs_o (by assumption)) m2_0]; exact h_mn)⟩ dX7_restore_9

def q_m_image_g (T : Nat → ClassId) (n : Nat) (n1 : Nat) (n2 : Nat) (o : Nat) (i : Int32) (w0 : Int32) (g1 : Nat) (g2 : Nat) (g3 : Nat) (g4 : Nat) (tp : Nat) (w6 : Int32) (w7 : Int32) (w8 : Int32) (w9 : Int32) (w10 : Int32) (w11 : Int32) (w12 : Int32) (w13 : Int32) (w14 : Int32) (g15 : Nat) (w16 : Int32) (g17 : Nat) (w18 : Int32) (w19 : Int32) (g20 : Nat) (w21 : Int32) (g22 : Nat) (g23 : Nat) (g24 : Nat) (w25 : Int32) (w26 : Int32) (w27 : Int32) (g28 : Nat) (g29 : Nat) (w30 : Int32) (g31 : Nat) (g32 : Nat) (g33 : Nat) (fa : Nat → Int32) (fi_ : Nat → Int32) : Option Value → va_W → Prop := fun rr ww => (∃ (z : Int32) (ga : Nat → Int32) (gi : Nat → Int32) (m1 : Nat) (m2 : Nat), rr = some (.int z) ∧ ww = [(o, .inr (8, [.int (nI 0), .ref g1, .ref g2, .ref g3, .ref g4, .int (nI tp), .int w6, .int w7, .int w8, .int w9, .int w10, .int w11, .int w12, .int w13, .int w14, .ref g15, .int w16, .ref g17, .int w18, .int w19, .ref g20, .int w21, .ref g22, .ref g23, .ref g24, .int w25, .int w26, .int w27, .ref g28, .ref g29, .int w30, .ref g31, .ref g32, .ref g33])), (g1, .inl (T 0, 282, .inl ga)), (g2, .inl (T 2, 2, .inl gi))] ∧ z = imgWhy i ∧ MI n ga ∧ MI m1 (fun j => ga (94 + j)) ∧ MI m2 (fun j => ga (188 + j)) ∧ gi = imZ i fi_ ∧ ga = imF i fa)
set_option maxHeartbeats 4000000 in
set_option maxRecDepth 100000 in
theorem m_image_g (l : Launch) (D : va_G) (T : Nat → ClassId) (n : Nat) (n1 : Nat) (n2 : Nat) (o : Nat) (i : Int32) (w0 : Int32) (g1 : Nat) (g2 : Nat) (g3 : Nat) (g4 : Nat) (tp : Nat) (w6 : Int32) (w7 : Int32) (w8 : Int32) (w9 : Int32) (w10 : Int32) (w11 : Int32) (w12 : Int32) (w13 : Int32) (w14 : Int32) (g15 : Nat) (w16 : Int32) (g17 : Nat) (w18 : Int32) (w19 : Int32) (g20 : Nat) (w21 : Int32) (g22 : Nat) (g23 : Nat) (g24 : Nat) (w25 : Int32) (w26 : Int32) (w27 : Int32) (g28 : Nat) (g29 : Nat) (w30 : Int32) (g31 : Nat) (g32 : Nat) (g33 : Nat) (fa : Nat → Int32) (fi_ : Nat → Int32) (h_a : MI n fa) (h_i1 : MI n1 (fun j => fa (94 + j))) (h_i2 : MI n2 (fun j => fa (188 + j))) : Ct l yX8_image cX8_image 3 (some .int) 1 0 0 D T [.ref o, .int i] [(o, .inr (8, [.int w0, .ref g1, .ref g2, .ref g3, .ref g4, .int (nI tp), .int w6, .int w7, .int w8, .int w9, .int w10, .int w11, .int w12, .int w13, .int w14, .ref g15, .int w16, .ref g17, .int w18, .int w19, .ref g20, .int w21, .ref g22, .ref g23, .ref g24, .int w25, .int w26, .int w27, .ref g28, .ref g29, .int w30, .ref g31, .ref g32, .ref g33])), (g1, .inl (T 0, 282, .inl fa)), (g2, .inl (T 2, 2, .inl fi_))] (q_m_image_g T n n1 n2 o i w0 g1 g2 g3 g4 tp w6 w7 w8 w9 w10 w11 w12 w13 w14 g15 w16 g17 w18 w19 g20 w21 g22 g23 g24 w25 w26 w27 g28 g29 w30 g31 g32 g33 fa fi_) := by
  refine Ct.of (cc := cX8_image) (maxL := 3) (ret := (some .int)) (by decide) (Nat.le_of_ble_eq_true rfl) ?_
  intro p e s m args below meth c A ls hC hnm V hl
  obtain ⟨hx, hb, hr, hml, hown, hts, hlocks⟩ := id hC
  generalize hH : s.heap = H at V ⊢
  clear hH
  have hl : lv_has ls 3 [(0, .ref o), (1, .int i)] := hl
  generalize hlo : ([] : List Loc) = locs at V ⊢
  clear hlo
  refine lv_aload_n hx hb dX8_image_0 rfl (lv_at hl 0 rfl) ?_
  refine lv_iconst (v := (nI 0)) hx hb dX8_image_1 (by decide +kernel) ?_
  refine g_put hC V (ci := 8) uwX8 tyX8 tyX8_ok nmX8 0 rfl rfl 0 (by decide) w_912 rfl rfl rfl rfl (Nat.le_of_ble_eq_true rfl) (ws' := [(o, .inr (8, [.int (nI 0), .ref g1, .ref g2, .ref g3, .ref g4, .int (nI tp), .int w6, .int w7, .int w8, .int w9, .int w10, .int w11, .int w12, .int w13, .int w14, .ref g15, .int w16, .ref g17, .int w18, .int w19, .ref g20, .int w21, .ref g22, .ref g23, .ref g24, .int w25, .int w26, .int w27, .ref g28, .ref g29, .int w30, .ref g31, .ref g32, .ref g33])), (g1, .inl (T 0, 282, .inl fa)), (g2, .inl (T 2, 2, .inl fi_))]) rfl dX8_image_2 (fun H locs V => ?_)
  refine lv_iload_n hx hb dX8_image_5 rfl (lv_at hl 1 rfl) ?_
  refine lv_i2l (v := i.toInt64) hx hb dX8_image_6 rfl ?_
  refine lv_lconst (v := (nI 0).toInt64) hx hb dX8_image_7 (by decide +kernel) ?_
  refine lv_lconst (v := (nI 1).toInt64) hx hb dX8_image_8 (by decide +kernel) ?_
  refine g_callSU (nA := 3) hC V hl.1 (m_within l D T i (nI 0) (nI 1)) w_1023 w_1024 w_9 w_1025 (by decide +kernel) rfl ⟨(Nat.le_of_ble_eq_true rfl), (Nat.le_of_ble_eq_true rfl)⟩ [] rfl rfl (Nat.le_of_ble_eq_true rfl) dX8_image_9 ⟨(Nat.le_of_ble_eq_true rfl), (Nat.le_of_ble_eq_true rfl)⟩ rfl (fun r w1 H locs hQ V => ?_)
  rcases hQ with ⟨rfl, rfl, f_1, f_2⟩ | ⟨rfl, rfl, f_3⟩
  · have V : gW D T A s [(o, .inr (8, [.int (nI 0), .ref g1, .ref g2, .ref g3, .ref g4, .int (nI tp), .int w6, .int w7, .int w8, .int w9, .int w10, .int w11, .int w12, .int w13, .int w14, .ref g15, .int w16, .ref g17, .int w18, .int w19, .ref g20, .int w21, .ref g22, .ref g23, .ref g24, .int w25, .int w26, .int w27, .ref g28, .ref g29, .int w30, .ref g31, .ref g32, .ref g33])), (g1, .inl (T 0, 282, .inl fa)), (g2, .inl (T 2, 2, .inl fi_))] H locs := V _ [] rfl rfl rfl (by decide +kernel) rfl
    show W p l e _ s m args below meth c H locs _ _ _ (F0 m 12 ls [.int (nI 1)])
    have i1 : ¬ i < 0 := f_1
    have i2 : ¬ nI 2 ≤ i := nv_n rfl (by decide) f_2
    obtain ⟨ij, hij, eij⟩ := g_idx (n := 2) (by decide) i1 i2
    rw [eij] at hl
    have hij2 : ij = 0 ∨ ij = 1 := by omega
    rcases hij2 with rfl | rfl
    · skip
      refine lv_if_ne (tgt := 18) hx hb dX8_image_12 (by decide) (fun _ => ?_) (fun c => absurd (show (nI 1) = 0 from c) (by decide +kernel))
      refine lv_iconst (v := (nI 0)) hx hb dX8_image_18 (by decide +kernel) ?_
      refine lv_istore_n (lv' := [(2, .int (nI 0)), (0, .ref o), (1, .int (nI 0))]) hx hb dX8_image_19 rfl hl (by decide) rfl (fun ls hl => ?_)
      have L_4 : ∀ (fu : Nat) (k20 : Nat) (f20 : Nat → Int32), k20 ≤ 94 → (∀ j, j < k20 → f20 (94 + j) = fa j) → (∀ j, j < 94 → f20 j = fa j) → (∀ j, 94 + 94 ≤ j → f20 j = fa j) → 94 - k20 < fu → ∀ (H : Heap) (locs : List Loc) (ls : Array Slot), gW D T A s [(o, .inr (8, [.int (nI 0), .ref g1, .ref g2, .ref g3, .ref g4, .int (nI tp), .int w6, .int w7, .int w8, .int w9, .int w10, .int w11, .int w12, .int w13, .int w14, .ref g15, .int w16, .ref g17, .int w18, .int w19, .ref g20, .int w21, .ref g22, .ref g23, .ref g24, .int w25, .int w26, .int w27, .ref g28, .ref g29, .int w30, .ref g31, .ref g32, .ref g33])), (g1, .inl (T 0, 282, .inl f20)), (g2, .inl (T 2, 2, .inl fi_))] H locs → lv_has ls 3 [(2, .int (nI k20)), (0, .ref o), (1, .int (nI 0))] → W p l e (rmD 1 0 0) s m args below meth c H locs 0 0 (MQ below (gQ D A (q_m_image_g T n n1 n2 o i w0 g1 g2 g3 g4 tp w6 w7 w8 w9 w10 w11 w12 w13 w14 g15 w16 g17 w18 w19 g20 w21 g22 g23 g24 w25 w26 w27 g28 g29 w30 g31 g32 g33 fa fi_)) args s 0 0 A) (F0 m 20 ls []) := by
        intro fu_20
        induction fu_20 with
        | zero => intro k20 f20 hk20 hf1 hf2 hf3 hmu; exact absurd hmu (Nat.not_lt_zero _)
        | succ fu_20 ih_20 =>
          intro k20 f20 hk20 hf1 hf2 hf3 hmu_20 H locs ls V hl
          refine lv_iload_n hx hb dX8_image_20 rfl (lv_at hl 0 rfl) ?_
          refine lv_bipush (v := (nI 94)) hx hb dX8_image_21 (by decide +kernel) ?_
          refine lv_icmp_ge (tgt := 51) hx hb dX8_image_23 (by decide) (fun c_5 => ?_) (fun c_5 => ?_)
          · skip
            have c_5 := b_le (by omega) (by omega) c_5
            refine lv_aload_n hx hb dX8_image_51 rfl (lv_at hl 1 rfl) ?_
            refine g_get hC V (ci := 8) uwX8 0 rfl rfl 2 (by decide) w_914 rfl rfl dX8_image_52 ?_
            refine lv_iload_n hx hb dX8_image_55 rfl (lv_at hl 2 rfl) ?_
            refine lv_iconst (v := (nI 1)) hx hb dX8_image_56 (by decide +kernel) ?_
            refine g_zast hC V 2 rfl (vp_in_nI (by decide) (by decide)) (f' := (upd fi_ 0 (vp_nar .boolean (nI 1)))) (by rw [nI_clamp (by decide)]) (ws' := [(o, .inr (8, [.int (nI 0), .ref g1, .ref g2, .ref g3, .ref g4, .int (nI tp), .int w6, .int w7, .int w8, .int w9, .int w10, .int w11, .int w12, .int w13, .int w14, .ref g15, .int w16, .ref g17, .int w18, .int w19, .ref g20, .int w21, .ref g22, .ref g23, .ref g24, .int w25, .int w26, .int w27, .ref g28, .ref g29, .int w30, .ref g31, .ref g32, .ref g33])), (g1, .inl (T 0, 282, .inl f20)), (g2, .inl (T 2, 2, .inl (upd fi_ 0 (vp_nar .boolean (nI 1)))))]) rfl dX8_image_57 (fun H locs V => ?_)
            refine lv_iconst (v := (nI 0)) hx hb dX8_image_58 (by decide +kernel) ?_
            exact g_iret (Qr := (q_m_image_g T n n1 n2 o i w0 g1 g2 g3 g4 tp w6 w7 w8 w9 w10 w11 w12 w13 w14 g15 w16 g17 w18 w19 g20 w21 g22 g23 g24 w25 w26 w27 g28 g29 w30 g31 g32 g33 fa fi_)) hC V ⟨(Nat.le_of_ble_eq_true rfl), (Nat.le_of_ble_eq_true rfl)⟩ ⟨(nI 0), f20, (upd fi_ 0 (vp_nar .boolean (nI 1))), n, n2, rfl, rfl, (iw_2 (by assumption) (by assumption)), (mi_ext h_a (fun j hj => hf2 j (by omega))), (im_mi h_a (fun j hj => hf1 j (by omega))), (im_old h_i2 (fun j hj => hf3 _ (by omega))), (iz_0 (by assumption)), (imF_m0 (by assumption) (fun j hj => hf1 j (by omega)) (fun j hj => hf2 j (by omega)) (fun j hj => hf3 j (by omega)))⟩ dX8_image_59
          · skip
            have c_5 := b_nle (by omega) (by omega) c_5
            refine lv_aload_n hx hb dX8_image_26 rfl (lv_at hl 1 rfl) ?_
            refine g_get hC V (ci := 8) uwX8 0 rfl rfl 1 (by decide) w_913 rfl rfl dX8_image_27 ?_
            refine lv_bipush (v := (nI 94)) hx hb dX8_image_30 (by decide +kernel) ?_
            refine lv_iload_n hx hb dX8_image_32 rfl (lv_at hl 2 rfl) ?_
            refine lv_iconst (v := (nI 1)) hx hb dX8_image_33 (by decide +kernel) ?_
            refine lv_iadd hx hb dX8_image_34 ?_
            refine g_vi (y := (nI 1)) (by decide +kernel) ?_
            refine lv_imul hx hb dX8_image_35 ?_
            refine g_vi (y := (nI 94)) (by decide +kernel) ?_
            refine lv_iload_n hx hb dX8_image_36 rfl (lv_at hl 0 rfl) ?_
            refine lv_iadd hx hb dX8_image_37 ?_
            refine g_vi (y := (nI (94 + k20))) (nI_add _ _) ?_
            refine lv_aload_n hx hb dX8_image_38 rfl (lv_at hl 1 rfl) ?_
            refine g_get hC V (ci := 8) uwX8 0 rfl rfl 1 (by decide) w_913 rfl rfl dX8_image_39 ?_
            refine lv_iload_n hx hb dX8_image_42 rfl (lv_at hl 0 rfl) ?_
            refine g_iald hC V 1 rfl (vp_in_nI (by omega) (by omega)) (v := (f20 k20)) (congrArg _ (nI_clamp (by omega))) dX8_image_43 ?_
            refine g_iast hC V 1 rfl (vp_in_nI (by omega) (by omega)) (f' := (upd f20 (94 + k20) (f20 k20))) (by rw [nI_clamp (by omega)]) (ws' := [(o, .inr (8, [.int (nI 0), .ref g1, .ref g2, .ref g3, .ref g4, .int (nI tp), .int w6, .int w7, .int w8, .int w9, .int w10, .int w11, .int w12, .int w13, .int w14, .ref g15, .int w16, .ref g17, .int w18, .int w19, .ref g20, .int w21, .ref g22, .ref g23, .ref g24, .int w25, .int w26, .int w27, .ref g28, .ref g29, .int w30, .ref g31, .ref g32, .ref g33])), (g1, .inl (T 0, 282, .inl (upd f20 (94 + k20) (f20 k20)))), (g2, .inl (T 2, 2, .inl fi_))]) rfl dX8_image_44 (fun H locs V => ?_)
            refine lv_iinc (v := (nI (k20 + 1))) (lv' := [(2, .int (nI (k20 + 1))), (0, .ref o), (1, .int (nI 0))]) hx hb dX8_image_45 hl (k := 0) rfl (nI_1 _) (by decide) rfl (fun ls hl => ?_)
            refine lv_goto (tgt := 20) hx hb dX8_image_48 (by decide) ?_
            exact ih_20 (k20 + 1) (upd f20 (94 + k20) (f20 k20)) (by omega) (im_st (B := 94) hf1 hf2 (by omega) (by omega)) (fun j hj => (up_ge (by omega)).trans (hf2 j hj)) (fun j hj => (up_other (by omega)).trans (hf3 j hj)) (by omega) _ _ _ V (lv_sub hl [0, 1, 2] rfl)
      exact L_4 _ 0 fa (by omega) (fun j h => absurd h (Nat.not_lt_zero _)) (fun _ _ => rfl) (fun _ _ => rfl) (Nat.lt_succ_self _) _ _ _ V (lv_sub hl [0, 1, 2] rfl)
    · skip
      refine lv_if_ne (tgt := 18) hx hb dX8_image_12 (by decide) (fun _ => ?_) (fun c => absurd (show (nI 1) = 0 from c) (by decide +kernel))
      refine lv_iconst (v := (nI 0)) hx hb dX8_image_18 (by decide +kernel) ?_
      refine lv_istore_n (lv' := [(2, .int (nI 0)), (0, .ref o), (1, .int (nI 1))]) hx hb dX8_image_19 rfl hl (by decide) rfl (fun ls hl => ?_)
      have L_6 : ∀ (fu : Nat) (k20 : Nat) (f20 : Nat → Int32), k20 ≤ 94 → (∀ j, j < k20 → f20 (188 + j) = fa j) → (∀ j, j < 188 → f20 j = fa j) → (∀ j, 188 + 94 ≤ j → f20 j = fa j) → 94 - k20 < fu → ∀ (H : Heap) (locs : List Loc) (ls : Array Slot), gW D T A s [(o, .inr (8, [.int (nI 0), .ref g1, .ref g2, .ref g3, .ref g4, .int (nI tp), .int w6, .int w7, .int w8, .int w9, .int w10, .int w11, .int w12, .int w13, .int w14, .ref g15, .int w16, .ref g17, .int w18, .int w19, .ref g20, .int w21, .ref g22, .ref g23, .ref g24, .int w25, .int w26, .int w27, .ref g28, .ref g29, .int w30, .ref g31, .ref g32, .ref g33])), (g1, .inl (T 0, 282, .inl f20)), (g2, .inl (T 2, 2, .inl fi_))] H locs → lv_has ls 3 [(2, .int (nI k20)), (0, .ref o), (1, .int (nI 1))] → W p l e (rmD 1 0 0) s m args below meth c H locs 0 0 (MQ below (gQ D A (q_m_image_g T n n1 n2 o i w0 g1 g2 g3 g4 tp w6 w7 w8 w9 w10 w11 w12 w13 w14 g15 w16 g17 w18 w19 g20 w21 g22 g23 g24 w25 w26 w27 g28 g29 w30 g31 g32 g33 fa fi_)) args s 0 0 A) (F0 m 20 ls []) := by
        intro fu_20
        induction fu_20 with
        | zero => intro k20 f20 hk20 hf1 hf2 hf3 hmu; exact absurd hmu (Nat.not_lt_zero _)
        | succ fu_20 ih_20 =>
          intro k20 f20 hk20 hf1 hf2 hf3 hmu_20 H locs ls V hl
          refine lv_iload_n hx hb dX8_image_20 rfl (lv_at hl 0 rfl) ?_
          refine lv_bipush (v := (nI 94)) hx hb dX8_image_21 (by decide +kernel) ?_
          refine lv_icmp_ge (tgt := 51) hx hb dX8_image_23 (by decide) (fun c_7 => ?_) (fun c_7 => ?_)
          · skip
            have c_7 := b_le (by omega) (by omega) c_7
            refine lv_aload_n hx hb dX8_image_51 rfl (lv_at hl 1 rfl) ?_
            refine g_get hC V (ci := 8) uwX8 0 rfl rfl 2 (by decide) w_914 rfl rfl dX8_image_52 ?_
            refine lv_iload_n hx hb dX8_image_55 rfl (lv_at hl 2 rfl) ?_
            refine lv_iconst (v := (nI 1)) hx hb dX8_image_56 (by decide +kernel) ?_
            refine g_zast hC V 2 rfl (vp_in_nI (by decide) (by decide)) (f' := (upd fi_ 1 (vp_nar .boolean (nI 1)))) (by rw [nI_clamp (by decide)]) (ws' := [(o, .inr (8, [.int (nI 0), .ref g1, .ref g2, .ref g3, .ref g4, .int (nI tp), .int w6, .int w7, .int w8, .int w9, .int w10, .int w11, .int w12, .int w13, .int w14, .ref g15, .int w16, .ref g17, .int w18, .int w19, .ref g20, .int w21, .ref g22, .ref g23, .ref g24, .int w25, .int w26, .int w27, .ref g28, .ref g29, .int w30, .ref g31, .ref g32, .ref g33])), (g1, .inl (T 0, 282, .inl f20)), (g2, .inl (T 2, 2, .inl (upd fi_ 1 (vp_nar .boolean (nI 1)))))]) rfl dX8_image_57 (fun H locs V => ?_)
            refine lv_iconst (v := (nI 0)) hx hb dX8_image_58 (by decide +kernel) ?_
            exact g_iret (Qr := (q_m_image_g T n n1 n2 o i w0 g1 g2 g3 g4 tp w6 w7 w8 w9 w10 w11 w12 w13 w14 g15 w16 g17 w18 w19 g20 w21 g22 g23 g24 w25 w26 w27 g28 g29 w30 g31 g32 g33 fa fi_)) hC V ⟨(Nat.le_of_ble_eq_true rfl), (Nat.le_of_ble_eq_true rfl)⟩ ⟨(nI 0), f20, (upd fi_ 1 (vp_nar .boolean (nI 1))), n1, n, rfl, rfl, (iw_2 (by assumption) (by assumption)), (mi_ext h_a (fun j hj => hf2 j (by omega))), (im_old h_i1 (fun j hj => hf2 _ (by omega))), (im_mi h_a (fun j hj => hf1 j (by omega))), (iz_1 (by assumption)), (imF_m1 (by assumption) (fun j hj => hf1 j (by omega)) (fun j hj => hf2 j (by omega)) (fun j hj => hf3 j (by omega)))⟩ dX8_image_59
          · skip
            have c_7 := b_nle (by omega) (by omega) c_7
            refine lv_aload_n hx hb dX8_image_26 rfl (lv_at hl 1 rfl) ?_
            refine g_get hC V (ci := 8) uwX8 0 rfl rfl 1 (by decide) w_913 rfl rfl dX8_image_27 ?_
            refine lv_bipush (v := (nI 94)) hx hb dX8_image_30 (by decide +kernel) ?_
            refine lv_iload_n hx hb dX8_image_32 rfl (lv_at hl 2 rfl) ?_
            refine lv_iconst (v := (nI 1)) hx hb dX8_image_33 (by decide +kernel) ?_
            refine lv_iadd hx hb dX8_image_34 ?_
            refine g_vi (y := (nI 2)) (by decide +kernel) ?_
            refine lv_imul hx hb dX8_image_35 ?_
            refine g_vi (y := (nI 188)) (by decide +kernel) ?_
            refine lv_iload_n hx hb dX8_image_36 rfl (lv_at hl 0 rfl) ?_
            refine lv_iadd hx hb dX8_image_37 ?_
            refine g_vi (y := (nI (188 + k20))) (nI_add _ _) ?_
            refine lv_aload_n hx hb dX8_image_38 rfl (lv_at hl 1 rfl) ?_
            refine g_get hC V (ci := 8) uwX8 0 rfl rfl 1 (by decide) w_913 rfl rfl dX8_image_39 ?_
            refine lv_iload_n hx hb dX8_image_42 rfl (lv_at hl 0 rfl) ?_
            refine g_iald hC V 1 rfl (vp_in_nI (by omega) (by omega)) (v := (f20 k20)) (congrArg _ (nI_clamp (by omega))) dX8_image_43 ?_
            refine g_iast hC V 1 rfl (vp_in_nI (by omega) (by omega)) (f' := (upd f20 (188 + k20) (f20 k20))) (by rw [nI_clamp (by omega)]) (ws' := [(o, .inr (8, [.int (nI 0), .ref g1, .ref g2, .ref g3, .ref g4, .int (nI tp), .int w6, .int w7, .int w8, .int w9, .int w10, .int w11, .int w12, .int w13, .int w14, .ref g15, .int w16, .ref g17, .int w18, .int w19, .ref g20, .int w21, .ref g22, .ref g23, .ref g24, .int w25, .int w26, .int w27, .ref g28, .ref g29, .int w30, .ref g31, .ref g32, .ref g33])), (g1, .inl (T 0, 282, .inl (upd f20 (188 + k20) (f20 k20)))), (g2, .inl (T 2, 2, .inl fi_))]) rfl dX8_image_44 (fun H locs V => ?_)
            refine lv_iinc (v := (nI (k20 + 1))) (lv' := [(2, .int (nI (k20 + 1))), (0, .ref o), (1, .int (nI 1))]) hx hb dX8_image_45 hl (k := 0) rfl (nI_1 _) (by decide) rfl (fun ls hl => ?_)
            refine lv_goto (tgt := 20) hx hb dX8_image_48 (by decide) ?_
            exact ih_20 (k20 + 1) (upd f20 (188 + k20) (f20 k20)) (by omega) (im_st (B := 188) hf1 hf2 (by omega) (by omega)) (fun j hj => (up_ge (by omega)).trans (hf2 j hj)) (fun j hj => (up_other (by omega)).trans (hf3 j hj)) (by omega) _ _ _ V (lv_sub hl [0, 1, 2] rfl)
      exact L_6 _ 0 fa (by omega) (fun j h => absurd h (Nat.not_lt_zero _)) (fun _ _ => rfl) (fun _ _ => rfl) (Nat.lt_succ_self _) _ _ _ V (lv_sub hl [0, 1, 2] rfl)
  · have V : gW D T A s [(o, .inr (8, [.int (nI 0), .ref g1, .ref g2, .ref g3, .ref g4, .int (nI tp), .int w6, .int w7, .int w8, .int w9, .int w10, .int w11, .int w12, .int w13, .int w14, .ref g15, .int w16, .ref g17, .int w18, .int w19, .ref g20, .int w21, .ref g22, .ref g23, .ref g24, .int w25, .int w26, .int w27, .ref g28, .ref g29, .int w30, .ref g31, .ref g32, .ref g33])), (g1, .inl (T 0, 282, .inl fa)), (g2, .inl (T 2, 2, .inl fi_))] H locs := V _ [] rfl rfl rfl (by decide +kernel) rfl
    show W p l e _ s m args below meth c H locs _ _ _ (F0 m 12 ls [.int (nI 0)])
    have i0 : (i < 0 ∨ nI 2 ≤ i) := nv_r rfl (by decide) f_3
    refine lv_if_ne (tgt := 18) hx hb dX8_image_12 (by decide) (fun c => absurd (show (nI 0) = 0 by decide +kernel) c) (fun _ => ?_)
    refine lv_bipush (v := (-2)) hx hb dX8_image_15 (by decide +kernel) ?_
    exact g_iret (Qr := (q_m_image_g T n n1 n2 o i w0 g1 g2 g3 g4 tp w6 w7 w8 w9 w10 w11 w12 w13 w14 g15 w16 g17 w18 w19 g20 w21 g22 g23 g24 w25 w26 w27 g28 g29 w30 g31 g32 g33 fa fi_)) hC V ⟨(Nat.le_of_ble_eq_true rfl), (Nat.le_of_ble_eq_true rfl)⟩ ⟨(-2), fa, fi_, n1, n2, rfl, rfl, (iw_1 (by assumption)), h_a, h_i1, h_i2, (iz_o (by assumption)), (imF_o (by assumption))⟩ dX8_image_17

def q_m_restore_g (T : Nat → ClassId) (n : Nat) (n1 : Nat) (n2 : Nat) (o : Nat) (i : Int32) (w0 : Int32) (g1 : Nat) (g2 : Nat) (g3 : Nat) (g4 : Nat) (tp : Nat) (w6 : Int32) (w7 : Int32) (w8 : Int32) (w9 : Int32) (w10 : Int32) (w11 : Int32) (w12 : Int32) (w13 : Int32) (w14 : Int32) (g15 : Nat) (w16 : Int32) (g17 : Nat) (w18 : Int32) (w19 : Int32) (g20 : Nat) (w21 : Int32) (g22 : Nat) (g23 : Nat) (g24 : Nat) (w25 : Int32) (w26 : Int32) (w27 : Int32) (g28 : Nat) (g29 : Nat) (w30 : Int32) (g31 : Nat) (g32 : Nat) (g33 : Nat) (fa : Nat → Int32) (fi_ : Nat → Int32) : Option Value → va_W → Prop := fun rr ww => (∃ (z : Int32) (ga : Nat → Int32) (m0 : Nat), rr = some (.int z) ∧ ww = [(o, .inr (8, [.int (nI 0), .ref g1, .ref g2, .ref g3, .ref g4, .int (nI tp), .int w6, .int w7, .int w8, .int w9, .int w10, .int w11, .int w12, .int w13, .int w14, .ref g15, .int w16, .ref g17, .int w18, .int w19, .ref g20, .int w21, .ref g22, .ref g23, .ref g24, .int w25, .int w26, .int w27, .ref g28, .ref g29, .int w30, .ref g31, .ref g32, .ref g33])), (g1, .inl (T 0, 282, .inl ga)), (g2, .inl (T 2, 2, .inl fi_))] ∧ MI m0 ga ∧ (∀ j, 94 ≤ j → ga j = fa j) ∧ z = resWhy i (fi_ 0) (fi_ 1) ∧ ga = resF i fa (fi_ 0) (fi_ 1))
set_option maxHeartbeats 4000000 in
set_option maxRecDepth 100000 in
theorem m_restore_g (l : Launch) (D : va_G) (T : Nat → ClassId) (n : Nat) (n1 : Nat) (n2 : Nat) (o : Nat) (i : Int32) (w0 : Int32) (g1 : Nat) (g2 : Nat) (g3 : Nat) (g4 : Nat) (tp : Nat) (w6 : Int32) (w7 : Int32) (w8 : Int32) (w9 : Int32) (w10 : Int32) (w11 : Int32) (w12 : Int32) (w13 : Int32) (w14 : Int32) (g15 : Nat) (w16 : Int32) (g17 : Nat) (w18 : Int32) (w19 : Int32) (g20 : Nat) (w21 : Int32) (g22 : Nat) (g23 : Nat) (g24 : Nat) (w25 : Int32) (w26 : Int32) (w27 : Int32) (g28 : Nat) (g29 : Nat) (w30 : Int32) (g31 : Nat) (g32 : Nat) (g33 : Nat) (fa : Nat → Int32) (fi_ : Nat → Int32) (h_a : MI n fa) (h_i1 : MI n1 (fun j => fa (94 + j))) (h_i2 : MI n2 (fun j => fa (188 + j))) : Ct l yX8_restore cX8_restore 3 (some .int) 1 0 0 D T [.ref o, .int i] [(o, .inr (8, [.int w0, .ref g1, .ref g2, .ref g3, .ref g4, .int (nI tp), .int w6, .int w7, .int w8, .int w9, .int w10, .int w11, .int w12, .int w13, .int w14, .ref g15, .int w16, .ref g17, .int w18, .int w19, .ref g20, .int w21, .ref g22, .ref g23, .ref g24, .int w25, .int w26, .int w27, .ref g28, .ref g29, .int w30, .ref g31, .ref g32, .ref g33])), (g1, .inl (T 0, 282, .inl fa)), (g2, .inl (T 2, 2, .inl fi_))] (q_m_restore_g T n n1 n2 o i w0 g1 g2 g3 g4 tp w6 w7 w8 w9 w10 w11 w12 w13 w14 g15 w16 g17 w18 w19 g20 w21 g22 g23 g24 w25 w26 w27 g28 g29 w30 g31 g32 g33 fa fi_) := by
  refine Ct.of (cc := cX8_restore) (maxL := 3) (ret := (some .int)) (by decide) (Nat.le_of_ble_eq_true rfl) ?_
  intro p e s m args below meth c A ls hC hnm V hl
  obtain ⟨hx, hb, hr, hml, hown, hts, hlocks⟩ := id hC
  generalize hH : s.heap = H at V ⊢
  clear hH
  have hl : lv_has ls 3 [(0, .ref o), (1, .int i)] := hl
  generalize hlo : ([] : List Loc) = locs at V ⊢
  clear hlo
  refine lv_aload_n hx hb dX8_restore_0 rfl (lv_at hl 0 rfl) ?_
  refine lv_iconst (v := (nI 0)) hx hb dX8_restore_1 (by decide +kernel) ?_
  refine g_put hC V (ci := 8) uwX8 tyX8 tyX8_ok nmX8 0 rfl rfl 0 (by decide) w_912 rfl rfl rfl rfl (Nat.le_of_ble_eq_true rfl) (ws' := [(o, .inr (8, [.int (nI 0), .ref g1, .ref g2, .ref g3, .ref g4, .int (nI tp), .int w6, .int w7, .int w8, .int w9, .int w10, .int w11, .int w12, .int w13, .int w14, .ref g15, .int w16, .ref g17, .int w18, .int w19, .ref g20, .int w21, .ref g22, .ref g23, .ref g24, .int w25, .int w26, .int w27, .ref g28, .ref g29, .int w30, .ref g31, .ref g32, .ref g33])), (g1, .inl (T 0, 282, .inl fa)), (g2, .inl (T 2, 2, .inl fi_))]) rfl dX8_restore_2 (fun H locs V => ?_)
  refine lv_iload_n hx hb dX8_restore_5 rfl (lv_at hl 1 rfl) ?_
  refine lv_i2l (v := i.toInt64) hx hb dX8_restore_6 rfl ?_
  refine lv_lconst (v := (nI 0).toInt64) hx hb dX8_restore_7 (by decide +kernel) ?_
  refine lv_lconst (v := (nI 1).toInt64) hx hb dX8_restore_8 (by decide +kernel) ?_
  refine g_callSU (nA := 3) hC V hl.1 (m_within l D T i (nI 0) (nI 1)) w_1023 w_1024 w_9 w_1025 (by decide +kernel) rfl ⟨(Nat.le_of_ble_eq_true rfl), (Nat.le_of_ble_eq_true rfl)⟩ [] rfl rfl (Nat.le_of_ble_eq_true rfl) dX8_restore_9 ⟨(Nat.le_of_ble_eq_true rfl), (Nat.le_of_ble_eq_true rfl)⟩ rfl (fun r w1 H locs hQ V => ?_)
  rcases hQ with ⟨rfl, rfl, f_1, f_2⟩ | ⟨rfl, rfl, f_3⟩
  · have V : gW D T A s [(o, .inr (8, [.int (nI 0), .ref g1, .ref g2, .ref g3, .ref g4, .int (nI tp), .int w6, .int w7, .int w8, .int w9, .int w10, .int w11, .int w12, .int w13, .int w14, .ref g15, .int w16, .ref g17, .int w18, .int w19, .ref g20, .int w21, .ref g22, .ref g23, .ref g24, .int w25, .int w26, .int w27, .ref g28, .ref g29, .int w30, .ref g31, .ref g32, .ref g33])), (g1, .inl (T 0, 282, .inl fa)), (g2, .inl (T 2, 2, .inl fi_))] H locs := V _ [] rfl rfl rfl (by decide +kernel) rfl
    show W p l e _ s m args below meth c H locs _ _ _ (F0 m 12 ls [.int (nI 1)])
    have i1 : ¬ i < 0 := f_1
    have i2 : ¬ nI 2 ≤ i := nv_n rfl (by decide) f_2
    obtain ⟨ij, hij, eij⟩ := g_idx (n := 2) (by decide) i1 i2
    rw [eij] at hl
    have hij2 : ij = 0 ∨ ij = 1 := by omega
    rcases hij2 with rfl | rfl
    · skip
      refine lv_if_ne (tgt := 18) hx hb dX8_restore_12 (by decide) (fun _ => ?_) (fun c => absurd (show (nI 1) = 0 from c) (by decide +kernel))
      refine lv_aload_n hx hb dX8_restore_18 rfl (lv_at hl 0 rfl) ?_
      refine g_get hC V (ci := 8) uwX8 0 rfl rfl 2 (by decide) w_914 rfl rfl dX8_restore_19 ?_
      refine lv_iload_n hx hb dX8_restore_22 rfl (lv_at hl 1 rfl) ?_
      refine g_zald hC V 2 rfl (vp_in_nI (by decide) (by decide)) (v := (fi_ 0)) (congrArg _ (nI_clamp (by decide))) dX8_restore_23 ?_
      refine lv_if_ne (tgt := 30) hx hb dX8_restore_24 (by decide) (fun c_4 => ?_) (fun c_4 => ?_)
      · skip
        refine lv_iconst (v := (nI 0)) hx hb dX8_restore_30 (by decide +kernel) ?_
        refine lv_istore_n (lv' := [(2, .int (nI 0)), (0, .ref o), (1, .int (nI 0))]) hx hb dX8_restore_31 rfl hl (by decide) rfl (fun ls hl => ?_)
        have L_5 : ∀ (fu : Nat) (k32 : Nat) (f32 : Nat → Int32), k32 ≤ 94 → (∀ j, j < k32 → f32 j = fa (94 + j)) → (∀ j, 94 ≤ j → f32 j = fa j) → 94 - k32 < fu → ∀ (H : Heap) (locs : List Loc) (ls : Array Slot), gW D T A s [(o, .inr (8, [.int (nI 0), .ref g1, .ref g2, .ref g3, .ref g4, .int (nI tp), .int w6, .int w7, .int w8, .int w9, .int w10, .int w11, .int w12, .int w13, .int w14, .ref g15, .int w16, .ref g17, .int w18, .int w19, .ref g20, .int w21, .ref g22, .ref g23, .ref g24, .int w25, .int w26, .int w27, .ref g28, .ref g29, .int w30, .ref g31, .ref g32, .ref g33])), (g1, .inl (T 0, 282, .inl f32)), (g2, .inl (T 2, 2, .inl fi_))] H locs → lv_has ls 3 [(2, .int (nI k32)), (0, .ref o), (1, .int (nI 0))] → W p l e (rmD 1 0 0) s m args below meth c H locs 0 0 (MQ below (gQ D A (q_m_restore_g T n n1 n2 o i w0 g1 g2 g3 g4 tp w6 w7 w8 w9 w10 w11 w12 w13 w14 g15 w16 g17 w18 w19 g20 w21 g22 g23 g24 w25 w26 w27 g28 g29 w30 g31 g32 g33 fa fi_)) args s 0 0 A) (F0 m 32 ls []) := by
          intro fu_32
          induction fu_32 with
          | zero => intro k32 f32 hk32 hr1 hr2 hmu; exact absurd hmu (Nat.not_lt_zero _)
          | succ fu_32 ih_32 =>
            intro k32 f32 hk32 hr1 hr2 hmu_32 H locs ls V hl
            refine lv_iload_n hx hb dX8_restore_32 rfl (lv_at hl 0 rfl) ?_
            refine lv_bipush (v := (nI 94)) hx hb dX8_restore_33 (by decide +kernel) ?_
            refine lv_icmp_ge (tgt := 63) hx hb dX8_restore_35 (by decide) (fun c_6 => ?_) (fun c_6 => ?_)
            · skip
              have c_6 := b_le (by omega) (by omega) c_6
              refine lv_iconst (v := (nI 0)) hx hb dX8_restore_63 (by decide +kernel) ?_
              exact g_iret (Qr := (q_m_restore_g T n n1 n2 o i w0 g1 g2 g3 g4 tp w6 w7 w8 w9 w10 w11 w12 w13 w14 g15 w16 g17 w18 w19 g20 w21 g22 g23 g24 w25 w26 w27 g28 g29 w30 g31 g32 g33 fa fi_)) hC V ⟨(Nat.le_of_ble_eq_true rfl), (Nat.le_of_ble_eq_true rfl)⟩ ⟨(nI 0), f32, n1, rfl, rfl, (mi_ext h_i1 (fun j hj => hr1 j (by omega))), (fun j hj => hr2 j hj), (by first | exact rs_0a (by assumption) (by assumption) | exact rs_0b (by assumption) (by assumption)), (resF_m0 (by first | exact rs_0a (by assumption) (by assumption) | exact rs_0b (by assumption) (by assumption)) (by assumption) (fun j hj => hr1 j (by omega)) hr2)⟩ dX8_restore_64
            · skip
              have c_6 := b_nle (by omega) (by omega) c_6
              refine lv_aload_n hx hb dX8_restore_38 rfl (lv_at hl 1 rfl) ?_
              refine g_get hC V (ci := 8) uwX8 0 rfl rfl 1 (by decide) w_913 rfl rfl dX8_restore_39 ?_
              refine lv_iload_n hx hb dX8_restore_42 rfl (lv_at hl 0 rfl) ?_
              refine lv_aload_n hx hb dX8_restore_43 rfl (lv_at hl 1 rfl) ?_
              refine g_get hC V (ci := 8) uwX8 0 rfl rfl 1 (by decide) w_913 rfl rfl dX8_restore_44 ?_
              refine lv_bipush (v := (nI 94)) hx hb dX8_restore_47 (by decide +kernel) ?_
              refine lv_iload_n hx hb dX8_restore_49 rfl (lv_at hl 2 rfl) ?_
              refine lv_iconst (v := (nI 1)) hx hb dX8_restore_50 (by decide +kernel) ?_
              refine lv_iadd hx hb dX8_restore_51 ?_
              refine g_vi (y := (nI 1)) (by decide +kernel) ?_
              refine lv_imul hx hb dX8_restore_52 ?_
              refine g_vi (y := (nI 94)) (by decide +kernel) ?_
              refine lv_iload_n hx hb dX8_restore_53 rfl (lv_at hl 0 rfl) ?_
              refine lv_iadd hx hb dX8_restore_54 ?_
              refine g_vi (y := (nI (94 + k32))) (nI_add _ _) ?_
              refine g_iald hC V 1 rfl (vp_in_nI (by omega) (by omega)) (v := (f32 (94 + k32))) (congrArg _ (nI_clamp (by omega))) dX8_restore_55 ?_
              refine g_iast hC V 1 rfl (vp_in_nI (by omega) (by omega)) (f' := (upd f32 k32 (f32 (94 + k32)))) (by rw [nI_clamp (by omega)]) (ws' := [(o, .inr (8, [.int (nI 0), .ref g1, .ref g2, .ref g3, .ref g4, .int (nI tp), .int w6, .int w7, .int w8, .int w9, .int w10, .int w11, .int w12, .int w13, .int w14, .ref g15, .int w16, .ref g17, .int w18, .int w19, .ref g20, .int w21, .ref g22, .ref g23, .ref g24, .int w25, .int w26, .int w27, .ref g28, .ref g29, .int w30, .ref g31, .ref g32, .ref g33])), (g1, .inl (T 0, 282, .inl (upd f32 k32 (f32 (94 + k32))))), (g2, .inl (T 2, 2, .inl fi_))]) rfl dX8_restore_56 (fun H locs V => ?_)
              refine lv_iinc (v := (nI (k32 + 1))) (lv' := [(2, .int (nI (k32 + 1))), (0, .ref o), (1, .int (nI 0))]) hx hb dX8_restore_57 hl (k := 0) rfl (nI_1 _) (by decide) rfl (fun ls hl => ?_)
              refine lv_goto (tgt := 32) hx hb dX8_restore_60 (by decide) ?_
              exact ih_32 (k32 + 1) (upd f32 k32 (f32 (94 + k32))) (by omega) (up_one (p := fun j y => y = fa (94 + j)) hr1 (hr2 _ (by omega))) (fun j hj => (up_other (by omega)).trans (hr2 j hj)) (by omega) _ _ _ V (lv_sub hl [0, 1, 2] rfl)
        exact L_5 _ 0 fa (by omega) (fun j h => absurd h (Nat.not_lt_zero _)) (fun _ _ => rfl) (Nat.lt_succ_self _) _ _ _ V (lv_sub hl [0, 1, 2] rfl)
      · skip
        refine lv_bipush (v := (-5)) hx hb dX8_restore_27 (by decide +kernel) ?_
        exact g_iret (Qr := (q_m_restore_g T n n1 n2 o i w0 g1 g2 g3 g4 tp w6 w7 w8 w9 w10 w11 w12 w13 w14 g15 w16 g17 w18 w19 g20 w21 g22 g23 g24 w25 w26 w27 g28 g29 w30 g31 g32 g33 fa fi_)) hC V ⟨(Nat.le_of_ble_eq_true rfl), (Nat.le_of_ble_eq_true rfl)⟩ ⟨(-5), fa, n, rfl, rfl, h_a, (fun _ _ => rfl), (by first | exact rs_5a (by assumption) (by assumption) | exact rs_5b (by assumption) (by assumption)), (resF_n (z := -5) (by first | exact rs_5a (by assumption) (by assumption) | exact rs_5b (by assumption) (by assumption)) m5_0)⟩ dX8_restore_29
    · skip
      refine lv_if_ne (tgt := 18) hx hb dX8_restore_12 (by decide) (fun _ => ?_) (fun c => absurd (show (nI 1) = 0 from c) (by decide +kernel))
      refine lv_aload_n hx hb dX8_restore_18 rfl (lv_at hl 0 rfl) ?_
      refine g_get hC V (ci := 8) uwX8 0 rfl rfl 2 (by decide) w_914 rfl rfl dX8_restore_19 ?_
      refine lv_iload_n hx hb dX8_restore_22 rfl (lv_at hl 1 rfl) ?_
      refine g_zald hC V 2 rfl (vp_in_nI (by decide) (by decide)) (v := (fi_ 1)) (congrArg _ (nI_clamp (by decide))) dX8_restore_23 ?_
      refine lv_if_ne (tgt := 30) hx hb dX8_restore_24 (by decide) (fun c_7 => ?_) (fun c_7 => ?_)
      · skip
        refine lv_iconst (v := (nI 0)) hx hb dX8_restore_30 (by decide +kernel) ?_
        refine lv_istore_n (lv' := [(2, .int (nI 0)), (0, .ref o), (1, .int (nI 1))]) hx hb dX8_restore_31 rfl hl (by decide) rfl (fun ls hl => ?_)
        have L_8 : ∀ (fu : Nat) (k32 : Nat) (f32 : Nat → Int32), k32 ≤ 94 → (∀ j, j < k32 → f32 j = fa (188 + j)) → (∀ j, 94 ≤ j → f32 j = fa j) → 94 - k32 < fu → ∀ (H : Heap) (locs : List Loc) (ls : Array Slot), gW D T A s [(o, .inr (8, [.int (nI 0), .ref g1, .ref g2, .ref g3, .ref g4, .int (nI tp), .int w6, .int w7, .int w8, .int w9, .int w10, .int w11, .int w12, .int w13, .int w14, .ref g15, .int w16, .ref g17, .int w18, .int w19, .ref g20, .int w21, .ref g22, .ref g23, .ref g24, .int w25, .int w26, .int w27, .ref g28, .ref g29, .int w30, .ref g31, .ref g32, .ref g33])), (g1, .inl (T 0, 282, .inl f32)), (g2, .inl (T 2, 2, .inl fi_))] H locs → lv_has ls 3 [(2, .int (nI k32)), (0, .ref o), (1, .int (nI 1))] → W p l e (rmD 1 0 0) s m args below meth c H locs 0 0 (MQ below (gQ D A (q_m_restore_g T n n1 n2 o i w0 g1 g2 g3 g4 tp w6 w7 w8 w9 w10 w11 w12 w13 w14 g15 w16 g17 w18 w19 g20 w21 g22 g23 g24 w25 w26 w27 g28 g29 w30 g31 g32 g33 fa fi_)) args s 0 0 A) (F0 m 32 ls []) := by
          intro fu_32
          induction fu_32 with
          | zero => intro k32 f32 hk32 hr1 hr2 hmu; exact absurd hmu (Nat.not_lt_zero _)
          | succ fu_32 ih_32 =>
            intro k32 f32 hk32 hr1 hr2 hmu_32 H locs ls V hl
            refine lv_iload_n hx hb dX8_restore_32 rfl (lv_at hl 0 rfl) ?_
            refine lv_bipush (v := (nI 94)) hx hb dX8_restore_33 (by decide +kernel) ?_
            refine lv_icmp_ge (tgt := 63) hx hb dX8_restore_35 (by decide) (fun c_9 => ?_) (fun c_9 => ?_)
            · skip
              have c_9 := b_le (by omega) (by omega) c_9
              refine lv_iconst (v := (nI 0)) hx hb dX8_restore_63 (by decide +kernel) ?_
              exact g_iret (Qr := (q_m_restore_g T n n1 n2 o i w0 g1 g2 g3 g4 tp w6 w7 w8 w9 w10 w11 w12 w13 w14 g15 w16 g17 w18 w19 g20 w21 g22 g23 g24 w25 w26 w27 g28 g29 w30 g31 g32 g33 fa fi_)) hC V ⟨(Nat.le_of_ble_eq_true rfl), (Nat.le_of_ble_eq_true rfl)⟩ ⟨(nI 0), f32, n2, rfl, rfl, (mi_ext h_i2 (fun j hj => hr1 j (by omega))), (fun j hj => hr2 j hj), (by first | exact rs_0a (by assumption) (by assumption) | exact rs_0b (by assumption) (by assumption)), (resF_m1 (by first | exact rs_0a (by assumption) (by assumption) | exact rs_0b (by assumption) (by assumption)) (by assumption) (fun j hj => hr1 j (by omega)) hr2)⟩ dX8_restore_64
            · skip
              have c_9 := b_nle (by omega) (by omega) c_9
              refine lv_aload_n hx hb dX8_restore_38 rfl (lv_at hl 1 rfl) ?_
              refine g_get hC V (ci := 8) uwX8 0 rfl rfl 1 (by decide) w_913 rfl rfl dX8_restore_39 ?_
              refine lv_iload_n hx hb dX8_restore_42 rfl (lv_at hl 0 rfl) ?_
              refine lv_aload_n hx hb dX8_restore_43 rfl (lv_at hl 1 rfl) ?_
              refine g_get hC V (ci := 8) uwX8 0 rfl rfl 1 (by decide) w_913 rfl rfl dX8_restore_44 ?_
              refine lv_bipush (v := (nI 94)) hx hb dX8_restore_47 (by decide +kernel) ?_
              refine lv_iload_n hx hb dX8_restore_49 rfl (lv_at hl 2 rfl) ?_
              refine lv_iconst (v := (nI 1)) hx hb dX8_restore_50 (by decide +kernel) ?_
              refine lv_iadd hx hb dX8_restore_51 ?_
              refine g_vi (y := (nI 2)) (by decide +kernel) ?_
              refine lv_imul hx hb dX8_restore_52 ?_
              refine g_vi (y := (nI 188)) (by decide +kernel) ?_
              refine lv_iload_n hx hb dX8_restore_53 rfl (lv_at hl 0 rfl) ?_
              refine lv_iadd hx hb dX8_restore_54 ?_
              refine g_vi (y := (nI (188 + k32))) (nI_add _ _) ?_
              refine g_iald hC V 1 rfl (vp_in_nI (by omega) (by omega)) (v := (f32 (188 + k32))) (congrArg _ (nI_clamp (by omega))) dX8_restore_55 ?_
              refine g_iast hC V 1 rfl (vp_in_nI (by omega) (by omega)) (f' := (upd f32 k32 (f32 (188 + k32)))) (by rw [nI_clamp (by omega)]) (ws' := [(o, .inr (8, [.int (nI 0), .ref g1, .ref g2, .ref g3, .ref g4, .int (nI tp), .int w6, .int w7, .int w8, .int w9, .int w10, .int w11, .int w12, .int w13, .int w14, .ref g15, .int w16, .ref g17, .int w18, .int w19, .ref g20, .int w21, .ref g22, .ref g23, .ref g24, .int w25, .int w26, .int w27, .ref g28, .ref g29, .int w30, .ref g31, .ref g32, .ref g33])), (g1, .inl (T 0, 282, .inl (upd f32 k32 (f32 (188 + k32))))), (g2, .inl (T 2, 2, .inl fi_))]) rfl dX8_restore_56 (fun H locs V => ?_)
              refine lv_iinc (v := (nI (k32 + 1))) (lv' := [(2, .int (nI (k32 + 1))), (0, .ref o), (1, .int (nI 1))]) hx hb dX8_restore_57 hl (k := 0) rfl (nI_1 _) (by decide) rfl (fun ls hl => ?_)
              refine lv_goto (tgt := 32) hx hb dX8_restore_60 (by decide) ?_
              exact ih_32 (k32 + 1) (upd f32 k32 (f32 (188 + k32))) (by omega) (up_one (p := fun j y => y = fa (188 + j)) hr1 (hr2 _ (by omega))) (fun j hj => (up_other (by omega)).trans (hr2 j hj)) (by omega) _ _ _ V (lv_sub hl [0, 1, 2] rfl)
        exact L_8 _ 0 fa (by omega) (fun j h => absurd h (Nat.not_lt_zero _)) (fun _ _ => rfl) (Nat.lt_succ_self _) _ _ _ V (lv_sub hl [0, 1, 2] rfl)
      · skip
        refine lv_bipush (v := (-5)) hx hb dX8_restore_27 (by decide +kernel) ?_
        exact g_iret (Qr := (q_m_restore_g T n n1 n2 o i w0 g1 g2 g3 g4 tp w6 w7 w8 w9 w10 w11 w12 w13 w14 g15 w16 g17 w18 w19 g20 w21 g22 g23 g24 w25 w26 w27 g28 g29 w30 g31 g32 g33 fa fi_)) hC V ⟨(Nat.le_of_ble_eq_true rfl), (Nat.le_of_ble_eq_true rfl)⟩ ⟨(-5), fa, n, rfl, rfl, h_a, (fun _ _ => rfl), (by first | exact rs_5a (by assumption) (by assumption) | exact rs_5b (by assumption) (by assumption)), (resF_n (z := -5) (by first | exact rs_5a (by assumption) (by assumption) | exact rs_5b (by assumption) (by assumption)) m5_0)⟩ dX8_restore_29
  · have V : gW D T A s [(o, .inr (8, [.int (nI 0), .ref g1, .ref g2, .ref g3, .ref g4, .int (nI tp), .int w6, .int w7, .int w8, .int w9, .int w10, .int w11, .int w12, .int w13, .int w14, .ref g15, .int w16, .ref g17, .int w18, .int w19, .ref g20, .int w21, .ref g22, .ref g23, .ref g24, .int w25, .int w26, .int w27, .ref g28, .ref g29, .int w30, .ref g31, .ref g32, .ref g33])), (g1, .inl (T 0, 282, .inl fa)), (g2, .inl (T 2, 2, .inl fi_))] H locs := V _ [] rfl rfl rfl (by decide +kernel) rfl
    show W p l e _ s m args below meth c H locs _ _ _ (F0 m 12 ls [.int (nI 0)])
    have i0 : (i < 0 ∨ nI 2 ≤ i) := nv_r rfl (by decide) f_3
    refine lv_if_ne (tgt := 18) hx hb dX8_restore_12 (by decide) (fun c => absurd (show (nI 0) = 0 by decide +kernel) c) (fun _ => ?_)
    refine lv_bipush (v := (-2)) hx hb dX8_restore_15 (by decide +kernel) ?_
    exact g_iret (Qr := (q_m_restore_g T n n1 n2 o i w0 g1 g2 g3 g4 tp w6 w7 w8 w9 w10 w11 w12 w13 w14 g15 w16 g17 w18 w19 g20 w21 g22 g23 g24 w25 w26 w27 g28 g29 w30 g31 g32 g33 fa fi_)) hC V ⟨(Nat.le_of_ble_eq_true rfl), (Nat.le_of_ble_eq_true rfl)⟩ ⟨(-2), fa, n, rfl, rfl, h_a, (fun _ _ => rfl), (rs_o (by assumption)), (resF_n (z := -2) (rs_o (by assumption)) m2_0)⟩ dX8_restore_17

/-- two SMITHS change their BLASTS -/
def swF (f : Nat → Int32) (a b : Nat) : Nat → Int32 := upd (upd f (4 + a) (f (4 + b))) (4 + b) (f (4 + a))
theorem swF_2 {f : Nat → Int32} {a b : Nat} (h : a < b) : swF (swF f a b) a b = f := by
  funext j
  unfold swF
  by_cases c : j = 4 + b
  · rw [c, up_same, up_other (by omega), up_same]
  · rw [up_other c]
    by_cases d : j = 4 + a
    · rw [d, up_same, up_same]
    · rw [up_other d, up_other c, up_other d]

def q_m_swaps_f (T : Nat → ClassId) (n : Nat) (o : Nat) (i : Nat) (j : Nat) (w0 : Int32) (g1 : Nat) (g2 : Nat) (g3 : Nat) (g4 : Nat) (tp : Nat) (w6 : Int32) (w7 : Int32) (w8 : Int32) (w9 : Int32) (w10 : Int32) (w11 : Int32) (w12 : Int32) (w13 : Int32) (w14 : Int32) (g15 : Nat) (w16 : Int32) (g17 : Nat) (w18 : Int32) (w19 : Int32) (g20 : Nat) (w21 : Int32) (g22 : Nat) (g23 : Nat) (g24 : Nat) (w25 : Int32) (w26 : Int32) (w27 : Int32) (g28 : Nat) (g29 : Nat) (w30 : Int32) (g31 : Nat) (g32 : Nat) (g33 : Nat) (fa : Nat → Int32) : Option Value → va_W → Prop := fun rr ww => (∃ (ga : Nat → Int32), rr = none ∧ ww = [(o, .inr (8, [.int w0, .ref g1, .ref g2, .ref g3, .ref g4, .int (nI tp), .int w6, .int w7, .int w8, .int w9, .int w10, .int w11, .int w12, .int w13, .int w14, .ref g15, .int w16, .ref g17, .int w18, .int w19, .ref g20, .int w21, .ref g22, .ref g23, .ref g24, .int w25, .int w26, .int w27, .ref g28, .ref g29, .int w30, .ref g31, .ref g32, .ref g33])), (g1, .inl (T 0, 282, .inl ga))] ∧ MS n fa ga ∧ ga = swF fa i j)
set_option maxHeartbeats 4000000 in
set_option maxRecDepth 100000 in
theorem m_swaps_f (l : Launch) (D : va_G) (T : Nat → ClassId) (n : Nat) (o : Nat) (i : Nat) (j : Nat) (w0 : Int32) (g1 : Nat) (g2 : Nat) (g3 : Nat) (g4 : Nat) (tp : Nat) (w6 : Int32) (w7 : Int32) (w8 : Int32) (w9 : Int32) (w10 : Int32) (w11 : Int32) (w12 : Int32) (w13 : Int32) (w14 : Int32) (g15 : Nat) (w16 : Int32) (g17 : Nat) (w18 : Int32) (w19 : Int32) (g20 : Nat) (w21 : Int32) (g22 : Nat) (g23 : Nat) (g24 : Nat) (w25 : Int32) (w26 : Int32) (w27 : Int32) (g28 : Nat) (g29 : Nat) (w30 : Int32) (g31 : Nat) (g32 : Nat) (g33 : Nat) (fa : Nat → Int32) (h_a : MI n fa) (h_i : i < n) (h_j : j < n) : Ct l yX8_swaps cX8_swaps 4 none 0 0 0 D T [.ref o, .int (nI i), .int (nI j)] [(o, .inr (8, [.int w0, .ref g1, .ref g2, .ref g3, .ref g4, .int (nI tp), .int w6, .int w7, .int w8, .int w9, .int w10, .int w11, .int w12, .int w13, .int w14, .ref g15, .int w16, .ref g17, .int w18, .int w19, .ref g20, .int w21, .ref g22, .ref g23, .ref g24, .int w25, .int w26, .int w27, .ref g28, .ref g29, .int w30, .ref g31, .ref g32, .ref g33])), (g1, .inl (T 0, 282, .inl fa))] (q_m_swaps_f T n o i j w0 g1 g2 g3 g4 tp w6 w7 w8 w9 w10 w11 w12 w13 w14 g15 w16 g17 w18 w19 g20 w21 g22 g23 g24 w25 w26 w27 g28 g29 w30 g31 g32 g33 fa) := by
  refine Ct.of (cc := cX8_swaps) (maxL := 4) (ret := none) (by decide) (Nat.le_of_ble_eq_true rfl) ?_
  intro p e s m args below meth c A ls hC hnm V hl
  obtain ⟨hx, hb, hr, hml, hown, hts, hlocks⟩ := id hC
  generalize hH : s.heap = H at V ⊢
  clear hH
  have hl : lv_has ls 4 [(0, .ref o), (1, .int (nI i)), (2, .int (nI j))] := hl
  generalize hlo : ([] : List Loc) = locs at V ⊢
  clear hlo
  have ms0 := ms_rf h_a
  have hn10 := h_a.1
  refine lv_aload_n hx hb dX8_swaps_0 rfl (lv_at hl 0 rfl) ?_
  refine g_get hC V (ci := 8) uwX8 0 rfl rfl 1 (by decide) w_913 rfl rfl dX8_swaps_1 ?_
  refine lv_iconst (v := (nI 4)) hx hb dX8_swaps_4 (by decide +kernel) ?_
  refine lv_iload_n hx hb dX8_swaps_5 rfl (lv_at hl 1 rfl) ?_
  refine lv_iadd hx hb dX8_swaps_6 ?_
  refine g_vi (y := (nI (4 + i))) (nI_add _ _) ?_
  obtain ⟨j_1, hj_1, ej_1⟩ := bd_ex (mi_blast h_a (i := i) (by omega))
  refine g_iald hC V 1 rfl (vp_in_nI (by omega) (by omega)) (v := (nI j_1)) (by rw [nI_clamp (by omega)]; exact ej_1) dX8_swaps_7 ?_
  refine lv_istore_n (lv' := [(3, .int (nI j_1)), (0, .ref o), (1, .int (nI i)), (2, .int (nI j))]) hx hb dX8_swaps_8 rfl hl (by decide) rfl (fun ls hl => ?_)
  refine lv_aload_n hx hb dX8_swaps_9 rfl (lv_at hl 1 rfl) ?_
  refine g_get hC V (ci := 8) uwX8 0 rfl rfl 1 (by decide) w_913 rfl rfl dX8_swaps_10 ?_
  refine lv_iconst (v := (nI 4)) hx hb dX8_swaps_13 (by decide +kernel) ?_
  refine lv_iload_n hx hb dX8_swaps_14 rfl (lv_at hl 2 rfl) ?_
  refine lv_iadd hx hb dX8_swaps_15 ?_
  refine g_vi (y := (nI (4 + i))) (nI_add _ _) ?_
  refine lv_aload_n hx hb dX8_swaps_16 rfl (lv_at hl 1 rfl) ?_
  refine g_get hC V (ci := 8) uwX8 0 rfl rfl 1 (by decide) w_913 rfl rfl dX8_swaps_17 ?_
  refine lv_iconst (v := (nI 4)) hx hb dX8_swaps_20 (by decide +kernel) ?_
  refine lv_iload_n hx hb dX8_swaps_21 rfl (lv_at hl 3 rfl) ?_
  refine lv_iadd hx hb dX8_swaps_22 ?_
  refine g_vi (y := (nI (4 + j))) (nI_add _ _) ?_
  obtain ⟨j_2, hj_2, ej_2⟩ := bd_ex (mi_blast h_a (i := j) (by omega))
  refine g_iald hC V 1 rfl (vp_in_nI (by omega) (by omega)) (v := (nI j_2)) (by rw [nI_clamp (by omega)]; exact ej_2) dX8_swaps_23 ?_
  obtain ⟨f_3, ef_3⟩ : ∃ x, x = upd fa (4 + i) (nI j_2) := ⟨_, rfl⟩
  have hf_3 : MS n fa f_3 := by rw [ef_3]; exact ms_st (by assumption) (by omega) (by omega) (by intros; first | (exfalso; omega) | exact bd_nI (by omega) | exact bd_le ‹bd (nI j_2) _› (by omega) | assumption) (by intros; first | (exfalso; omega) | exact bd_nI (by omega) | exact bd_le ‹bd (nI j_2) _› (by omega) | assumption) (by intros; first | (exfalso; omega) | exact bd_nI (by omega) | exact bd_le ‹bd (nI j_2) _› (by omega) | assumption) (by intros; first | (exfalso; omega) | exact bd_nI (by omega) | exact bd_le ‹bd (nI j_2) _› (by omega) | assumption) (by intros; first | (exfalso; omega) | exact bd_nI (by omega) | exact bd_le ‹bd (nI j_2) _› (by omega) | assumption) (by intros; first | (exfalso; omega) | exact bd_nI (by omega) | exact bd_le ‹bd (nI j_2) _› (by omega) | assumption) (by intros; first | (exfalso; omega) | exact bd_nI (by omega) | exact bd_le ‹bd (nI j_2) _› (by omega) | assumption)
  refine g_iast hC V 1 rfl (vp_in_nI (by omega) (by omega)) (f' := f_3) (by rw [nI_clamp (by omega)]; exact ef_3.symm) (ws' := [(o, .inr (8, [.int w0, .ref g1, .ref g2, .ref g3, .ref g4, .int (nI tp), .int w6, .int w7, .int w8, .int w9, .int w10, .int w11, .int w12, .int w13, .int w14, .ref g15, .int w16, .ref g17, .int w18, .int w19, .ref g20, .int w21, .ref g22, .ref g23, .ref g24, .int w25, .int w26, .int w27, .ref g28, .ref g29, .int w30, .ref g31, .ref g32, .ref g33])), (g1, .inl (T 0, 282, .inl f_3))]) rfl dX8_swaps_24 (fun H locs V => ?_)
  refine lv_aload_n hx hb dX8_swaps_25 rfl (lv_at hl 1 rfl) ?_
  refine g_get hC V (ci := 8) uwX8 0 rfl rfl 1 (by decide) w_913 rfl rfl dX8_swaps_26 ?_
  refine lv_iconst (v := (nI 4)) hx hb dX8_swaps_29 (by decide +kernel) ?_
  refine lv_iload_n hx hb dX8_swaps_30 rfl (lv_at hl 3 rfl) ?_
  refine lv_iadd hx hb dX8_swaps_31 ?_
  refine g_vi (y := (nI (4 + j))) (nI_add _ _) ?_
  refine lv_iload_n hx hb dX8_swaps_32 rfl (lv_at hl 0 rfl) ?_
  obtain ⟨f_4, ef_4⟩ : ∃ x, x = upd f_3 (4 + j) (nI j_1) := ⟨_, rfl⟩
  have hf_4 : MS n fa f_4 := by rw [ef_4]; exact ms_st (by assumption) (by omega) (by omega) (by intros; first | (exfalso; omega) | exact bd_nI (by omega) | exact bd_le ‹bd (nI j_1) _› (by omega) | assumption) (by intros; first | (exfalso; omega) | exact bd_nI (by omega) | exact bd_le ‹bd (nI j_1) _› (by omega) | assumption) (by intros; first | (exfalso; omega) | exact bd_nI (by omega) | exact bd_le ‹bd (nI j_1) _› (by omega) | assumption) (by intros; first | (exfalso; omega) | exact bd_nI (by omega) | exact bd_le ‹bd (nI j_1) _› (by omega) | assumption) (by intros; first | (exfalso; omega) | exact bd_nI (by omega) | exact bd_le ‹bd (nI j_1) _› (by omega) | assumption) (by intros; first | (exfalso; omega) | exact bd_nI (by omega) | exact bd_le ‹bd (nI j_1) _› (by omega) | assumption) (by intros; first | (exfalso; omega) | exact bd_nI (by omega) | exact bd_le ‹bd (nI j_1) _› (by omega) | assumption)
  refine g_iast hC V 1 rfl (vp_in_nI (by omega) (by omega)) (f' := f_4) (by rw [nI_clamp (by omega)]; exact ef_4.symm) (ws' := [(o, .inr (8, [.int w0, .ref g1, .ref g2, .ref g3, .ref g4, .int (nI tp), .int w6, .int w7, .int w8, .int w9, .int w10, .int w11, .int w12, .int w13, .int w14, .ref g15, .int w16, .ref g17, .int w18, .int w19, .ref g20, .int w21, .ref g22, .ref g23, .ref g24, .int w25, .int w26, .int w27, .ref g28, .ref g29, .int w30, .ref g31, .ref g32, .ref g33])), (g1, .inl (T 0, 282, .inl f_4))]) rfl dX8_swaps_33 (fun H locs V => ?_)
  exact g_vret (Qr := (q_m_swaps_f T n o i j w0 g1 g2 g3 g4 tp w6 w7 w8 w9 w10 w11 w12 w13 w14 g15 w16 g17 w18 w19 g20 w21 g22 g23 g24 w25 w26 w27 g28 g29 w30 g31 g32 g33 fa)) hC V ⟨(Nat.le_of_ble_eq_true rfl), (Nat.le_of_ble_eq_true rfl)⟩ ⟨f_4, rfl, rfl, hf_4, (by rw [ef_4, ef_3, ← ej_2, ← ej_1]; rfl)⟩ dX8_swaps_34

def q_m_swapped_k (T : Nat → ClassId) (n : Nat) (o : Nat) (n_ : Int32) (wh : Int32) (w0 : Int32) (g1 : Nat) (g2 : Nat) (g3 : Nat) (g4 : Nat) (tp : Nat) (w6 : Int32) (w7 : Int32) (w8 : Int32) (w9 : Int32) (w10 : Int32) (w11 : Int32) (w12 : Int32) (w13 : Int32) (w14 : Int32) (g15 : Nat) (w16 : Int32) (g17 : Nat) (w18 : Int32) (w19 : Int32) (g20 : Nat) (w21 : Int32) (g22 : Nat) (g23 : Nat) (g24 : Nat) (w25 : Int32) (w26 : Int32) (w27 : Int32) (g28 : Nat) (g29 : Nat) (w30 : Int32) (g31 : Nat) (g32 : Nat) (g33 : Nat) (fa : Nat → Int32) (fh : Nat → Int32) (fk : Nat → Int32) : Option Value → va_W → Prop := fun rr ww => (∃ (z : Int32) (bm : Int32) (gh : Nat → Int32) (gk : Nat → Int32), rr = some (.int z) ∧ ww = [(o, .inr (8, [.int (nI 0), .ref g1, .ref g2, .ref g3, .ref g4, .int (nI tp), .int w6, .int w7, .int w8, .int w9, .int w10, .int w11, .int w12, .int w13, .int w14, .ref g15, .int bm, .ref g17, .int w18, .int w19, .ref g20, .int w21, .ref g22, .ref g23, .ref g24, .int w25, .int w26, .int w27, .ref g28, .ref g29, .int w30, .ref g31, .ref g32, .ref g33])), (g1, .inl (T 0, 282, .inl fa)), (g15, .inl (T 0, 10, .inl gh)), (g17, .inl (T 0, 94, .inl gk))])
set_option maxHeartbeats 4000000 in
set_option maxRecDepth 100000 in
theorem m_swapped_k (l : Launch) (D : va_G) (T : Nat → ClassId) (n : Nat) (o : Nat) (n_ : Int32) (wh : Int32) (w0 : Int32) (g1 : Nat) (g2 : Nat) (g3 : Nat) (g4 : Nat) (tp : Nat) (w6 : Int32) (w7 : Int32) (w8 : Int32) (w9 : Int32) (w10 : Int32) (w11 : Int32) (w12 : Int32) (w13 : Int32) (w14 : Int32) (g15 : Nat) (w16 : Int32) (g17 : Nat) (w18 : Int32) (w19 : Int32) (g20 : Nat) (w21 : Int32) (g22 : Nat) (g23 : Nat) (g24 : Nat) (w25 : Int32) (w26 : Int32) (w27 : Int32) (g28 : Nat) (g29 : Nat) (w30 : Int32) (g31 : Nat) (g32 : Nat) (g33 : Nat) (fa : Nat → Int32) (fh : Nat → Int32) (fk : Nat → Int32) (h_a : MI n fa) : Ct l yX8_swapped cX8_swapped 10 (some .int) 5 0 0 D T [.ref o, .int n_, .int wh] [(o, .inr (8, [.int w0, .ref g1, .ref g2, .ref g3, .ref g4, .int (nI tp), .int w6, .int w7, .int w8, .int w9, .int w10, .int w11, .int w12, .int w13, .int w14, .ref g15, .int w16, .ref g17, .int w18, .int w19, .ref g20, .int w21, .ref g22, .ref g23, .ref g24, .int w25, .int w26, .int w27, .ref g28, .ref g29, .int w30, .ref g31, .ref g32, .ref g33])), (g1, .inl (T 0, 282, .inl fa)), (g15, .inl (T 0, 10, .inl fh)), (g17, .inl (T 0, 94, .inl fk))] (q_m_swapped_k T n o n_ wh w0 g1 g2 g3 g4 tp w6 w7 w8 w9 w10 w11 w12 w13 w14 g15 w16 g17 w18 w19 g20 w21 g22 g23 g24 w25 w26 w27 g28 g29 w30 g31 g32 g33 fa fh fk) := by
  refine Ct.of (cc := cX8_swapped) (maxL := 10) (ret := (some .int)) (by decide) (Nat.le_of_ble_eq_true rfl) ?_
  intro p e s m args below meth c A ls hC hnm V hl
  obtain ⟨hx, hb, hr, hml, hown, hts, hlocks⟩ := id hC
  generalize hH : s.heap = H at V ⊢
  clear hH
  have hl : lv_has ls 10 [(0, .ref o), (1, .int n_), (2, .int wh)] := hl
  generalize hlo : ([] : List Loc) = locs at V ⊢
  clear hlo
  have ms0 := ms_rf h_a
  have hn10 := h_a.1
  refine lv_aload_n hx hb dX8_swapped_0 rfl (lv_at hl 0 rfl) ?_
  refine lv_iconst (v := (nI 0)) hx hb dX8_swapped_1 (by decide +kernel) ?_
  refine g_put hC V (ci := 8) uwX8 tyX8 tyX8_ok nmX8 0 rfl rfl 0 (by decide) w_912 rfl rfl rfl rfl (Nat.le_of_ble_eq_true rfl) (ws' := [(o, .inr (8, [.int (nI 0), .ref g1, .ref g2, .ref g3, .ref g4, .int (nI tp), .int w6, .int w7, .int w8, .int w9, .int w10, .int w11, .int w12, .int w13, .int w14, .ref g15, .int w16, .ref g17, .int w18, .int w19, .ref g20, .int w21, .ref g22, .ref g23, .ref g24, .int w25, .int w26, .int w27, .ref g28, .ref g29, .int w30, .ref g31, .ref g32, .ref g33])), (g1, .inl (T 0, 282, .inl fa)), (g15, .inl (T 0, 10, .inl fh)), (g17, .inl (T 0, 94, .inl fk))]) rfl dX8_swapped_2 (fun H locs V => ?_)
  refine lv_iload_n hx hb dX8_swapped_5 rfl (lv_at hl 2 rfl) ?_
  refine lv_i2l (v := wh.toInt64) hx hb dX8_swapped_6 rfl ?_
  refine lv_lconst (v := (nI 0).toInt64) hx hb dX8_swapped_7 (by decide +kernel) ?_
  refine lv_lconst (v := (nI 1).toInt64) hx hb dX8_swapped_8 (by decide +kernel) ?_
  refine g_callSU (nA := 3) hC V hl.1 (m_within l D T wh (nI 0) (nI 1)) w_1023 w_1024 w_9 w_1025 (by decide +kernel) rfl ⟨(Nat.le_of_ble_eq_true rfl), (Nat.le_of_ble_eq_true rfl)⟩ [] rfl rfl (Nat.le_of_ble_eq_true rfl) dX8_swapped_9 ⟨(Nat.le_of_ble_eq_true rfl), (Nat.le_of_ble_eq_true rfl)⟩ rfl (fun r w1 H locs hQ V => ?_)
  rcases hQ with ⟨rfl, rfl, f_1, f_2⟩ | ⟨rfl, rfl, f_3⟩
  · have V : gW D T A s [(o, .inr (8, [.int (nI 0), .ref g1, .ref g2, .ref g3, .ref g4, .int (nI tp), .int w6, .int w7, .int w8, .int w9, .int w10, .int w11, .int w12, .int w13, .int w14, .ref g15, .int w16, .ref g17, .int w18, .int w19, .ref g20, .int w21, .ref g22, .ref g23, .ref g24, .int w25, .int w26, .int w27, .ref g28, .ref g29, .int w30, .ref g31, .ref g32, .ref g33])), (g1, .inl (T 0, 282, .inl fa)), (g15, .inl (T 0, 10, .inl fh)), (g17, .inl (T 0, 94, .inl fk))] H locs := V _ [] rfl rfl rfl (by decide +kernel) rfl
    show W p l e _ s m args below meth c H locs _ _ _ (F0 m 12 ls [.int (nI 1)])
    refine lv_if_ne (tgt := 18) hx hb dX8_swapped_12 (by decide) (fun _ => ?_) (fun c => absurd (show (nI 1) = 0 from c) (by decide +kernel))
    refine lv_aload_n hx hb dX8_swapped_18 rfl (lv_at hl 0 rfl) ?_
    refine lv_iload_n hx hb dX8_swapped_19 rfl (lv_at hl 1 rfl) ?_
    refine g_callVU (nA := 1) hC V hl.1 (m_refTime_f l D T o n_ (nI 0) g1 g2 g3 g4 tp w6 w7 w8 w9 w10 w11 w12 w13 w14 g15 w16 g17 w18 w19 g20 w21 g22 g23 g24 w25 w26 w27 g28 g29 w30 g31 g32 g33 fa) w_1174 w_1176 w_s58 w_9 w_1177 (by decide +kernel) rfl ⟨(Nat.le_of_ble_eq_true rfl), (Nat.le_of_ble_eq_true rfl)⟩ 0 (ci := 8) rfl rfl [0, 1] rfl rfl (Nat.le_of_ble_eq_true rfl) dX8_swapped_20 ⟨(Nat.le_of_ble_eq_true rfl), (Nat.le_of_ble_eq_true rfl)⟩ rfl (fun r w1 H locs hQ V => ?_)
    rcases hQ with ⟨jn, rfl, rfl, f_4, f_5, f_6, f_7⟩ | ⟨z_8, rfl, rfl, f_9, f_10⟩
    · have V : gW D T A s [(o, .inr (8, [.int (nI 0), .ref g1, .ref g2, .ref g3, .ref g4, .int (nI tp), .int w6, .int w7, .int w8, .int w9, .int w10, .int w11, .int w12, .int w13, .int w14, .ref g15, .int w16, .ref g17, .int w18, .int w19, .ref g20, .int w21, .ref g22, .ref g23, .ref g24, .int w25, .int w26, .int w27, .ref g28, .ref g29, .int w30, .ref g31, .ref g32, .ref g33])), (g1, .inl (T 0, 282, .inl fa)), (g15, .inl (T 0, 10, .inl fh)), (g17, .inl (T 0, 94, .inl fk))] H locs := V _ [0, 0] rfl rfl rfl (by decide +kernel) rfl
      show W p l e _ s m args below meth c H locs _ _ _ (F0 m 23 ls [.int (nI 0)])
      rw [f_6] at hl
      refine lv_istore_n (lv' := [(3, .int (nI 0)), (0, .ref o), (1, .int (nI jn)), (2, .int wh)]) hx hb dX8_swapped_23 rfl hl (by decide) rfl (fun ls hl => ?_)
      refine lv_iload_n hx hb dX8_swapped_24 rfl (lv_at hl 0 rfl) ?_
      refine lv_if_eq (tgt := 30) hx hb dX8_swapped_25 (by decide) (fun _ => ?_) (fun c => absurd (show (nI 0) = 0 by decide +kernel) c)
      refine lv_aload_n hx hb dX8_swapped_30 rfl (lv_at hl 1 rfl) ?_
      refine lv_iload_n hx hb dX8_swapped_31 rfl (lv_at hl 2 rfl) ?_
      refine lv_iconst (v := (-1)) hx hb dX8_swapped_32 (by decide +kernel) ?_
      refine lv_iconst (v := (-1)) hx hb dX8_swapped_33 (by decide +kernel) ?_
      refine lv_iconst (v := (nI 0)) hx hb dX8_swapped_34 (by decide +kernel) ?_
      refine g_callV (wr := []) (nA := 4) hC V hl.1 (m_doneBy l D T n o jn (-1) (-1) (nI 0) (nI 0) g1 g2 g3 g4 tp w6 w7 w8 w9 w10 w11 w12 w13 w14 g15 w16 g17 w18 w19 g20 w21 g22 g23 g24 w25 w26 w27 g28 g29 w30 g31 g32 g33 fa fh fk h_a (by first | assumption | omega) (Or.inl rfl)) w_1179 w_1181 w_s59 w_9 w_1182 (by decide +kernel) rfl ⟨(Nat.le_of_ble_eq_true rfl), (Nat.le_of_ble_eq_true rfl)⟩ 0 (ci := 8) rfl rfl [0, 1, 2, 3] [] rfl rfl rfl rfl (by decide) (Nat.le_of_ble_eq_true rfl) dX8_swapped_35 ⟨(Nat.le_of_ble_eq_true rfl), (Nat.le_of_ble_eq_true rfl)⟩ rfl (fun r w1 H locs hQ V => ?_)
      obtain ⟨z_11, bm_12, gh_13, gk_14, rfl, rfl⟩ := hQ
      have V : gW D T A s [(o, .inr (8, [.int (nI 0), .ref g1, .ref g2, .ref g3, .ref g4, .int (nI tp), .int w6, .int w7, .int w8, .int w9, .int w10, .int w11, .int w12, .int w13, .int w14, .ref g15, .int bm_12, .ref g17, .int w18, .int w19, .ref g20, .int w21, .ref g22, .ref g23, .ref g24, .int w25, .int w26, .int w27, .ref g28, .ref g29, .int w30, .ref g31, .ref g32, .ref g33])), (g1, .inl (T 0, 282, .inl fa)), (g15, .inl (T 0, 10, .inl gh_13)), (g17, .inl (T 0, 94, .inl gk_14))] H locs := V
      show W p l e _ s m args below meth c H locs _ _ _ (F0 m 38 ls [.int z_11])
      refine lv_istore (lv' := [(4, .int z_11), (3, .int (nI 0)), (0, .ref o), (1, .int (nI jn)), (2, .int wh)]) hx hb dX8_swapped_38 hl (by decide) rfl (fun ls hl => ?_)
      refine lv_iconst (v := (nI 0)) hx hb dX8_swapped_40 (by decide +kernel) ?_
      refine lv_istore (lv' := [(5, .int (nI 0)), (4, .int z_11), (3, .int (nI 0)), (0, .ref o), (1, .int (nI jn)), (2, .int wh)]) hx hb dX8_swapped_41 hl (by decide) rfl (fun ls hl => ?_)
      refine lv_iconst (v := (-1)) hx hb dX8_swapped_43 (by decide +kernel) ?_
      refine lv_istore (lv' := [(6, .int (-1)), (5, .int (nI 0)), (4, .int z_11), (3, .int (nI 0)), (0, .ref o), (1, .int (nI jn)), (2, .int wh)]) hx hb dX8_swapped_44 hl (by decide) rfl (fun ls hl => ?_)
      refine lv_iconst (v := (nI 0)) hx hb dX8_swapped_46 (by decide +kernel) ?_
      refine lv_istore (lv' := [(7, .int (nI 0)), (6, .int (-1)), (5, .int (nI 0)), (4, .int z_11), (3, .int (nI 0)), (0, .ref o), (1, .int (nI jn)), (2, .int wh)]) hx hb dX8_swapped_47 hl (by decide) rfl (fun ls hl => ?_)
      have L_15 : ∀ (fu : Nat) (ka : Nat) (x49_6 : Int32) (x49_5 : Int32) (bv : Int32) (gx : Nat → Int32) (gy : Nat → Int32), ka ≤ n → n - ka < fu → ∀ (H : Heap) (locs : List Loc) (ls : Array Slot), gW D T A s [(o, .inr (8, [.int (nI 0), .ref g1, .ref g2, .ref g3, .ref g4, .int (nI tp), .int w6, .int w7, .int w8, .int w9, .int w10, .int w11, .int w12, .int w13, .int w14, .ref g15, .int bv, .ref g17, .int w18, .int w19, .ref g20, .int w21, .ref g22, .ref g23, .ref g24, .int w25, .int w26, .int w27, .ref g28, .ref g29, .int w30, .ref g31, .ref g32, .ref g33])), (g1, .inl (T 0, 282, .inl fa)), (g15, .inl (T 0, 10, .inl gx)), (g17, .inl (T 0, 94, .inl gy))] H locs → lv_has ls 10 [(7, .int (nI ka)), (6, .int x49_6), (5, .int x49_5), (4, .int z_11), (3, .int (nI 0)), (0, .ref o), (1, .int (nI jn)), (2, .int wh)] → W p l e (rmD 5 0 0) s m args below meth c H locs 0 0 (MQ below (gQ D A (q_m_swapped_k T n o n_ wh w0 g1 g2 g3 g4 tp w6 w7 w8 w9 w10 w11 w12 w13 w14 g15 w16 g17 w18 w19 g20 w21 g22 g23 g24 w25 w26 w27 g28 g29 w30 g31 g32 g33 fa fh fk)) args s 0 0 A) (F0 m 49 ls []) := by
        intro fu_49
        induction fu_49 with
        | zero => intro ka x49_6 x49_5 bv gx gy hka hmu; exact absurd hmu (Nat.not_lt_zero _)
        | succ fu_49 ih_49 =>
          intro ka x49_6 x49_5 bv gx gy hka hmu_49 H locs ls V hl
          refine lv_iload hx hb dX8_swapped_49 (lv_at hl 0 rfl) ?_
          refine lv_aload_n hx hb dX8_swapped_51 rfl (lv_at hl 5 rfl) ?_
          refine g_get hC V (ci := 8) uwX8 0 rfl rfl 1 (by decide) w_913 rfl rfl dX8_swapped_52 ?_
          refine lv_iconst (v := (nI 0)) hx hb dX8_swapped_55 (by decide +kernel) ?_
          refine g_iald hC V 1 rfl (vp_in_nI (by decide) (by decide)) (v := (nI n)) (by rw [nI_clamp (by decide)]; first | rfl | exact h_a.2.1) dX8_swapped_56 ?_
          refine lv_icmp_ge (tgt := 142) hx hb dX8_swapped_57 (by decide) (fun c_16 => ?_) (fun c_16 => ?_)
          · skip
            have c_16 := b_le (by omega) (by omega) c_16
            refine lv_iload_n hx hb dX8_swapped_142 rfl (lv_at hl 7 rfl) ?_
            refine lv_if_ne (tgt := 151) hx hb dX8_swapped_143 (by decide) (fun c_17 => ?_) (fun c_17 => ?_)
            · skip
              refine lv_iload hx hb dX8_swapped_151 (lv_at hl 1 rfl) ?_
              exact g_iret (Qr := (q_m_swapped_k T n o n_ wh w0 g1 g2 g3 g4 tp w6 w7 w8 w9 w10 w11 w12 w13 w14 g15 w16 g17 w18 w19 g20 w21 g22 g23 g24 w25 w26 w27 g28 g29 w30 g31 g32 g33 fa fh fk)) hC V ⟨(Nat.le_of_ble_eq_true rfl), (Nat.le_of_ble_eq_true rfl)⟩ ⟨x49_6, bv, gx, gy, rfl, rfl⟩ dX8_swapped_153
            · skip
              refine lv_iload hx hb dX8_swapped_146 (lv_at hl 2 rfl) ?_
              refine lv_goto (tgt := 153) hx hb dX8_swapped_148 (by decide) ?_
              exact g_iret (Qr := (q_m_swapped_k T n o n_ wh w0 g1 g2 g3 g4 tp w6 w7 w8 w9 w10 w11 w12 w13 w14 g15 w16 g17 w18 w19 g20 w21 g22 g23 g24 w25 w26 w27 g28 g29 w30 g31 g32 g33 fa fh fk)) hC V ⟨(Nat.le_of_ble_eq_true rfl), (Nat.le_of_ble_eq_true rfl)⟩ ⟨x49_5, bv, gx, gy, rfl, rfl⟩ dX8_swapped_153
          · skip
            have c_16 := b_nle (by omega) (by omega) c_16
            refine lv_iload hx hb dX8_swapped_60 (lv_at hl 0 rfl) ?_
            refine lv_iconst (v := (nI 1)) hx hb dX8_swapped_62 (by decide +kernel) ?_
            refine lv_iadd hx hb dX8_swapped_63 ?_
            refine g_vi (y := (nI (ka + 1))) (nI_add _ _) ?_
            refine lv_istore (lv' := [(8, .int (nI (ka + 1))), (7, .int (nI ka)), (6, .int x49_6), (5, .int x49_5), (4, .int z_11), (3, .int (nI 0)), (0, .ref o), (1, .int (nI jn)), (2, .int wh)]) hx hb dX8_swapped_64 hl (by decide) rfl (fun ls hl => ?_)
            have L_18 : ∀ (fu : Nat) (kb : Nat) (x66_6 : Int32) (x66_5 : Int32) (bw : Int32) (gx2 : Nat → Int32) (gy2 : Nat → Int32), kb ≤ n → ka < kb → n - kb < fu → ∀ (H : Heap) (locs : List Loc) (ls : Array Slot), gW D T A s [(o, .inr (8, [.int (nI 0), .ref g1, .ref g2, .ref g3, .ref g4, .int (nI tp), .int w6, .int w7, .int w8, .int w9, .int w10, .int w11, .int w12, .int w13, .int w14, .ref g15, .int bw, .ref g17, .int w18, .int w19, .ref g20, .int w21, .ref g22, .ref g23, .ref g24, .int w25, .int w26, .int w27, .ref g28, .ref g29, .int w30, .ref g31, .ref g32, .ref g33])), (g1, .inl (T 0, 282, .inl fa)), (g15, .inl (T 0, 10, .inl gx2)), (g17, .inl (T 0, 94, .inl gy2))] H locs → lv_has ls 10 [(8, .int (nI kb)), (7, .int (nI ka)), (6, .int x66_6), (5, .int x66_5), (4, .int z_11), (3, .int (nI 0)), (0, .ref o), (1, .int (nI jn)), (2, .int wh)] → W p l e (rmD 5 0 0) s m args below meth c H locs 0 0 (MQ below (gQ D A (q_m_swapped_k T n o n_ wh w0 g1 g2 g3 g4 tp w6 w7 w8 w9 w10 w11 w12 w13 w14 g15 w16 g17 w18 w19 g20 w21 g22 g23 g24 w25 w26 w27 g28 g29 w30 g31 g32 g33 fa fh fk)) args s 0 0 A) (F0 m 66 ls []) := by
              intro fu_66
              induction fu_66 with
              | zero => intro kb x66_6 x66_5 bw gx2 gy2 hkb hab hmu; exact absurd hmu (Nat.not_lt_zero _)
              | succ fu_66 ih_66 =>
                intro kb x66_6 x66_5 bw gx2 gy2 hkb hab hmu_66 H locs ls V hl
                refine lv_iload hx hb dX8_swapped_66 (lv_at hl 0 rfl) ?_
                refine lv_aload_n hx hb dX8_swapped_68 rfl (lv_at hl 6 rfl) ?_
                refine g_get hC V (ci := 8) uwX8 0 rfl rfl 1 (by decide) w_913 rfl rfl dX8_swapped_69 ?_
                refine lv_iconst (v := (nI 0)) hx hb dX8_swapped_72 (by decide +kernel) ?_
                refine g_iald hC V 1 rfl (vp_in_nI (by decide) (by decide)) (v := (nI n)) (by rw [nI_clamp (by decide)]; first | rfl | exact h_a.2.1) dX8_swapped_73 ?_
                refine lv_icmp_ge (tgt := 136) hx hb dX8_swapped_74 (by decide) (fun c_19 => ?_) (fun c_19 => ?_)
                · skip
                  have c_19 := b_le (by omega) (by omega) c_19
                  refine lv_iinc (v := (nI (ka + 1))) (lv' := [(7, .int (nI (ka + 1))), (8, .int (nI kb)), (6, .int x66_6), (5, .int x66_5), (4, .int z_11), (3, .int (nI 0)), (0, .ref o), (1, .int (nI jn)), (2, .int wh)]) hx hb dX8_swapped_136 hl (k := 1) rfl (nI_1 _) (by decide) rfl (fun ls hl => ?_)
                  refine lv_goto (tgt := 49) hx hb dX8_swapped_139 (by decide) ?_
                  exact ih_49 (ka + 1) x66_6 x66_5 bw gx2 gy2 (by omega) (by omega) _ _ _ V (lv_sub hl [0, 2, 3, 4, 5, 6, 7, 8] rfl)
                · skip
                  have c_19 := b_nle (by omega) (by omega) c_19
                  refine lv_aload_n hx hb dX8_swapped_77 rfl (lv_at hl 6 rfl) ?_
                  refine lv_iload hx hb dX8_swapped_78 (lv_at hl 1 rfl) ?_
                  refine lv_iload hx hb dX8_swapped_80 (lv_at hl 0 rfl) ?_
                  refine g_callVU (nA := 2) hC V hl.1 (m_swaps_f l D T n o ka kb (nI 0) g1 g2 g3 g4 tp w6 w7 w8 w9 w10 w11 w12 w13 w14 g15 bw g17 w18 w19 g20 w21 g22 g23 g24 w25 w26 w27 g28 g29 w30 g31 g32 g33 fa h_a (by first | assumption | omega) (by first | assumption | omega)) w_1356 w_1358 w_s80 w_9 w_1359 (by decide +kernel) rfl ⟨(Nat.le_of_ble_eq_true rfl), (Nat.le_of_ble_eq_true rfl)⟩ 0 (ci := 8) rfl rfl [0, 1] rfl rfl (Nat.le_of_ble_eq_true rfl) dX8_swapped_82 ⟨(Nat.le_of_ble_eq_true rfl), (Nat.le_of_ble_eq_true rfl)⟩ rfl (fun r w1 H locs hQ V => ?_)
                  obtain ⟨ga_20, rfl, rfl, f_21, f_22⟩ := hQ
                  have V : gW D T A s [(o, .inr (8, [.int (nI 0), .ref g1, .ref g2, .ref g3, .ref g4, .int (nI tp), .int w6, .int w7, .int w8, .int w9, .int w10, .int w11, .int w12, .int w13, .int w14, .ref g15, .int bw, .ref g17, .int w18, .int w19, .ref g20, .int w21, .ref g22, .ref g23, .ref g24, .int w25, .int w26, .int w27, .ref g28, .ref g29, .int w30, .ref g31, .ref g32, .ref g33])), (g1, .inl (T 0, 282, .inl ga_20)), (g15, .inl (T 0, 10, .inl gx2)), (g17, .inl (T 0, 94, .inl gy2))] H locs := V _ [0, 0] rfl rfl rfl (by decide +kernel) rfl
                  show W p l e _ s m args below meth c H locs _ _ _ (F0 m 85 ls [])
                  have hga_20 : MS n fa ga_20 := ms_tr (by assumption) f_21
                  refine lv_aload_n hx hb dX8_swapped_85 rfl (lv_at hl 6 rfl) ?_
                  refine lv_iload_n hx hb dX8_swapped_86 rfl (lv_at hl 7 rfl) ?_
                  refine lv_iconst (v := (-1)) hx hb dX8_swapped_87 (by decide +kernel) ?_
                  refine lv_iconst (v := (-1)) hx hb dX8_swapped_88 (by decide +kernel) ?_
                  refine lv_iconst (v := (nI 0)) hx hb dX8_swapped_89 (by decide +kernel) ?_
                  refine g_callV (wr := []) (nA := 4) hC V hl.1 (m_doneBy l D T n o jn (-1) (-1) (nI 0) (nI 0) g1 g2 g3 g4 tp w6 w7 w8 w9 w10 w11 w12 w13 w14 g15 bw g17 w18 w19 g20 w21 g22 g23 g24 w25 w26 w27 g28 g29 w30 g31 g32 g33 ga_20 gx2 gy2 hga_20.1 (by first | assumption | omega) (Or.inl rfl)) w_1179 w_1181 w_s59 w_9 w_1182 (by decide +kernel) rfl ⟨(Nat.le_of_ble_eq_true rfl), (Nat.le_of_ble_eq_true rfl)⟩ 0 (ci := 8) rfl rfl [0, 1, 2, 3] [] rfl rfl rfl rfl (by decide) (Nat.le_of_ble_eq_true rfl) dX8_swapped_90 ⟨(Nat.le_of_ble_eq_true rfl), (Nat.le_of_ble_eq_true rfl)⟩ rfl (fun r w1 H locs hQ V => ?_)
                  obtain ⟨z_23, bm_24, gh_25, gk_26, rfl, rfl⟩ := hQ
                  have V : gW D T A s [(o, .inr (8, [.int (nI 0), .ref g1, .ref g2, .ref g3, .ref g4, .int (nI tp), .int w6, .int w7, .int w8, .int w9, .int w10, .int w11, .int w12, .int w13, .int w14, .ref g15, .int bm_24, .ref g17, .int w18, .int w19, .ref g20, .int w21, .ref g22, .ref g23, .ref g24, .int w25, .int w26, .int w27, .ref g28, .ref g29, .int w30, .ref g31, .ref g32, .ref g33])), (g1, .inl (T 0, 282, .inl ga_20)), (g15, .inl (T 0, 10, .inl gh_25)), (g17, .inl (T 0, 94, .inl gk_26))] H locs := V
                  show W p l e _ s m args below meth c H locs _ _ _ (F0 m 93 ls [.int z_23])
                  refine lv_iload hx hb dX8_swapped_93 (lv_at hl 4 rfl) ?_
                  refine lv_isub hx hb dX8_swapped_95 ?_
                  refine lv_istore (lv' := [(9, .int (z_23 - z_11)), (8, .int (nI kb)), (7, .int (nI ka)), (6, .int x66_6), (5, .int x66_5), (4, .int z_11), (3, .int (nI 0)), (0, .ref o), (1, .int (nI jn)), (2, .int wh)]) hx hb dX8_swapped_96 hl (by decide) rfl (fun ls hl => ?_)
                  refine lv_aload_n hx hb dX8_swapped_98 rfl (lv_at hl 7 rfl) ?_
                  refine lv_iload hx hb dX8_swapped_99 (lv_at hl 2 rfl) ?_
                  refine lv_iload hx hb dX8_swapped_101 (lv_at hl 1 rfl) ?_
                  refine g_callVU (nA := 2) hC V hl.1 (m_swaps_f l D T n o ka kb (nI 0) g1 g2 g3 g4 tp w6 w7 w8 w9 w10 w11 w12 w13 w14 g15 bm_24 g17 w18 w19 g20 w21 g22 g23 g24 w25 w26 w27 g28 g29 w30 g31 g32 g33 ga_20 hga_20.1 (by first | assumption | omega) (by first | assumption | omega)) w_1356 w_1358 w_s80 w_9 w_1359 (by decide +kernel) rfl ⟨(Nat.le_of_ble_eq_true rfl), (Nat.le_of_ble_eq_true rfl)⟩ 0 (ci := 8) rfl rfl [0, 1] rfl rfl (Nat.le_of_ble_eq_true rfl) dX8_swapped_103 ⟨(Nat.le_of_ble_eq_true rfl), (Nat.le_of_ble_eq_true rfl)⟩ rfl (fun r w1 H locs hQ V => ?_)
                  obtain ⟨ga_27, rfl, rfl, f_28, f_29⟩ := hQ
                  have V : gW D T A s [(o, .inr (8, [.int (nI 0), .ref g1, .ref g2, .ref g3, .ref g4, .int (nI tp), .int w6, .int w7, .int w8, .int w9, .int w10, .int w11, .int w12, .int w13, .int w14, .ref g15, .int bm_24, .ref g17, .int w18, .int w19, .ref g20, .int w21, .ref g22, .ref g23, .ref g24, .int w25, .int w26, .int w27, .ref g28, .ref g29, .int w30, .ref g31, .ref g32, .ref g33])), (g1, .inl (T 0, 282, .inl ga_27)), (g15, .inl (T 0, 10, .inl gh_25)), (g17, .inl (T 0, 94, .inl gk_26))] H locs := V _ [0, 0] rfl rfl rfl (by decide +kernel) rfl
                  show W p l e _ s m args below meth c H locs _ _ _ (F0 m 106 ls [])
                  have ega_27 : ga_27 = fa := by rw [f_29, f_22]; exact swF_2 (by omega)
                  rw [ega_27] at V
                  refine lv_iload hx hb dX8_swapped_106 (lv_at hl 0 rfl) ?_
                  refine lv_iload hx hb dX8_swapped_108 (lv_at hl 4 rfl) ?_
                  refine lv_icmp_gt (tgt := 116) hx hb dX8_swapped_110 (by decide) (fun c_30 => ?_) (fun c_30 => ?_)
                  · skip
                    refine lv_iload hx hb dX8_swapped_116 (lv_at hl 0 rfl) ?_
                    refine lv_istore (lv' := [(5, .int (z_23 - z_11)), (9, .int (z_23 - z_11)), (8, .int (nI kb)), (7, .int (nI ka)), (6, .int x66_6), (4, .int z_11), (3, .int (nI 0)), (0, .ref o), (1, .int (nI jn)), (2, .int wh)]) hx hb dX8_swapped_118 hl (by decide) rfl (fun ls hl => ?_)
                    refine lv_bipush (v := (nI 10)) hx hb dX8_swapped_120 (by decide +kernel) ?_
                    refine lv_iload hx hb dX8_swapped_122 (lv_at hl 3 rfl) ?_
                    refine lv_imul hx hb dX8_swapped_124 ?_
                    refine g_vi (y := (nI (10 * ka))) (pk_mul _ _) ?_
                    refine lv_iload hx hb dX8_swapped_125 (lv_at hl 2 rfl) ?_
                    refine lv_iadd hx hb dX8_swapped_127 ?_
                    refine g_vi (y := (nI ((10 * ka) + kb))) (nI_add _ _) ?_
                    refine lv_istore (lv' := [(6, .int (nI ((10 * ka) + kb))), (5, .int (z_23 - z_11)), (9, .int (z_23 - z_11)), (8, .int (nI kb)), (7, .int (nI ka)), (4, .int z_11), (3, .int (nI 0)), (0, .ref o), (1, .int (nI jn)), (2, .int wh)]) hx hb dX8_swapped_128 hl (by decide) rfl (fun ls hl => ?_)
                    refine lv_iinc (v := (nI (kb + 1))) (lv' := [(8, .int (nI (kb + 1))), (6, .int (nI ((10 * ka) + kb))), (5, .int (z_23 - z_11)), (9, .int (z_23 - z_11)), (7, .int (nI ka)), (4, .int z_11), (3, .int (nI 0)), (0, .ref o), (1, .int (nI jn)), (2, .int wh)]) hx hb dX8_swapped_130 hl (k := 3) rfl (nI_1 _) (by decide) rfl (fun ls hl => ?_)
                    refine lv_goto (tgt := 66) hx hb dX8_swapped_133 (by decide) ?_
                    exact ih_66 (kb + 1) (nI ((10 * ka) + kb)) (z_23 - z_11) bm_24 gh_25 gk_26 (by omega) (by omega) (by omega) _ _ _ V (lv_sub hl [0, 4, 1, 2, 5, 6, 7, 8, 9] rfl)
                  · skip
                    refine lv_goto (tgt := 130) hx hb dX8_swapped_113 (by decide) ?_
                    refine lv_iinc (v := (nI (kb + 1))) (lv' := [(8, .int (nI (kb + 1))), (9, .int (z_23 - z_11)), (7, .int (nI ka)), (6, .int x66_6), (5, .int x66_5), (4, .int z_11), (3, .int (nI 0)), (0, .ref o), (1, .int (nI jn)), (2, .int wh)]) hx hb dX8_swapped_130 hl (k := 1) rfl (nI_1 _) (by decide) rfl (fun ls hl => ?_)
                    refine lv_goto (tgt := 66) hx hb dX8_swapped_133 (by decide) ?_
                    exact ih_66 (kb + 1) x66_6 x66_5 bm_24 gh_25 gk_26 (by omega) (by omega) (by omega) _ _ _ V (lv_sub hl [0, 2, 3, 4, 5, 6, 7, 8, 9] rfl)
            exact L_18 _ (ka + 1) x49_6 x49_5 bv gx gy (by omega) (by omega) (Nat.lt_succ_self _) _ _ _ V (lv_sub hl [0, 1, 2, 3, 4, 5, 6, 7, 8] rfl)
      exact L_15 _ 0 (-1) (nI 0) bm_12 gh_13 gk_14 (by omega) (Nat.lt_succ_self _) _ _ _ V (lv_sub hl [0, 1, 2, 3, 4, 5, 6, 7] rfl)
    · have V : gW D T A s [(o, .inr (8, [.int (nI 0), .ref g1, .ref g2, .ref g3, .ref g4, .int (nI tp), .int w6, .int w7, .int w8, .int w9, .int w10, .int w11, .int w12, .int w13, .int w14, .ref g15, .int w16, .ref g17, .int w18, .int w19, .ref g20, .int w21, .ref g22, .ref g23, .ref g24, .int w25, .int w26, .int w27, .ref g28, .ref g29, .int w30, .ref g31, .ref g32, .ref g33])), (g1, .inl (T 0, 282, .inl fa)), (g15, .inl (T 0, 10, .inl fh)), (g17, .inl (T 0, 94, .inl fk))] H locs := V _ [0, 0] rfl rfl rfl (by decide +kernel) rfl
      show W p l e _ s m args below meth c H locs _ _ _ (F0 m 23 ls [.int z_8])
      refine lv_istore_n (lv' := [(3, .int z_8), (0, .ref o), (1, .int n_), (2, .int wh)]) hx hb dX8_swapped_23 rfl hl (by decide) rfl (fun ls hl => ?_)
      refine lv_iload_n hx hb dX8_swapped_24 rfl (lv_at hl 0 rfl) ?_
      refine lv_if_eq (tgt := 30) hx hb dX8_swapped_25 (by decide) (fun c_31 => ?_) (fun c_31 => ?_)
      · skip
        exact (absurd c_31 (by assumption) : False).elim
      · skip
        refine lv_iload_n hx hb dX8_swapped_28 rfl (lv_at hl 0 rfl) ?_
        exact g_iret (Qr := (q_m_swapped_k T n o n_ wh w0 g1 g2 g3 g4 tp w6 w7 w8 w9 w10 w11 w12 w13 w14 g15 w16 g17 w18 w19 g20 w21 g22 g23 g24 w25 w26 w27 g28 g29 w30 g31 g32 g33 fa fh fk)) hC V ⟨(Nat.le_of_ble_eq_true rfl), (Nat.le_of_ble_eq_true rfl)⟩ ⟨z_8, w16, fh, fk, rfl, rfl⟩ dX8_swapped_29
  · have V : gW D T A s [(o, .inr (8, [.int (nI 0), .ref g1, .ref g2, .ref g3, .ref g4, .int (nI tp), .int w6, .int w7, .int w8, .int w9, .int w10, .int w11, .int w12, .int w13, .int w14, .ref g15, .int w16, .ref g17, .int w18, .int w19, .ref g20, .int w21, .ref g22, .ref g23, .ref g24, .int w25, .int w26, .int w27, .ref g28, .ref g29, .int w30, .ref g31, .ref g32, .ref g33])), (g1, .inl (T 0, 282, .inl fa)), (g15, .inl (T 0, 10, .inl fh)), (g17, .inl (T 0, 94, .inl fk))] H locs := V _ [] rfl rfl rfl (by decide +kernel) rfl
    show W p l e _ s m args below meth c H locs _ _ _ (F0 m 12 ls [.int (nI 0)])
    refine lv_if_ne (tgt := 18) hx hb dX8_swapped_12 (by decide) (fun c => absurd (show (nI 0) = 0 by decide +kernel) c) (fun _ => ?_)
    refine lv_bipush (v := (-2)) hx hb dX8_swapped_15 (by decide +kernel) ?_
    exact g_iret (Qr := (q_m_swapped_k T n o n_ wh w0 g1 g2 g3 g4 tp w6 w7 w8 w9 w10 w11 w12 w13 w14 g15 w16 g17 w18 w19 g20 w21 g22 g23 g24 w25 w26 w27 g28 g29 w30 g31 g32 g33 fa fh fk)) hC V ⟨(Nat.le_of_ble_eq_true rfl), (Nat.le_of_ble_eq_true rfl)⟩ ⟨(-2), w16, fh, fk, rfl, rfl⟩ dX8_swapped_17
