def q_m_offBy (T : Nat → ClassId) (o : Nat) (i : Nat) (k : Nat) (w0 : Int32) (g1 : Nat) (g2 : Nat) (g3 : Nat) (g4 : Nat) (tp : Nat) (w6 : Int32) (w7 : Int32) (w8 : Int32) (w9 : Int32) (w10 : Int32) (w11 : Int32) (w12 : Int32) (w13 : Int32) (w14 : Int32) (g15 : Nat) (w16 : Int32) (g17 : Nat) (w18 : Int32) (w19 : Int32) (g20 : Nat) (w21 : Int32) (g22 : Nat) (g23 : Nat) (g24 : Nat) (w25 : Int32) (w26 : Int32) (w27 : Int32) (g28 : Nat) (g29 : Nat) (w30 : Int32) (g31 : Nat) (g32 : Nat) (g33 : Nat) (fa : Nat → Int32) : Option Value → va_W → Prop := fun rr ww => (∃ (z : Int32), rr = some (.int z) ∧ ww = [(o, .inr (8, [.int w0, .ref g1, .ref g2, .ref g3, .ref g4, .int (nI tp), .int w6, .int w7, .int w8, .int w9, .int w10, .int w11, .int w12, .int w13, .int w14, .ref g15, .int w16, .ref g17, .int w18, .int w19, .ref g20, .int w21, .ref g22, .ref g23, .ref g24, .int w25, .int w26, .int w27, .ref g28, .ref g29, .int w30, .ref g31, .ref g32, .ref g33])), (g1, .inl (T 0, 282, .inl fa))])
set_option maxHeartbeats 4000000 in
set_option maxRecDepth 100000 in
theorem m_offBy (l : Launch) (D : va_G) (T : Nat → ClassId) (o : Nat) (i : Nat) (k : Nat) (w0 : Int32) (g1 : Nat) (g2 : Nat) (g3 : Nat) (g4 : Nat) (tp : Nat) (w6 : Int32) (w7 : Int32) (w8 : Int32) (w9 : Int32) (w10 : Int32) (w11 : Int32) (w12 : Int32) (w13 : Int32) (w14 : Int32) (g15 : Nat) (w16 : Int32) (g17 : Nat) (w18 : Int32) (w19 : Int32) (g20 : Nat) (w21 : Int32) (g22 : Nat) (g23 : Nat) (g24 : Nat) (w25 : Int32) (w26 : Int32) (w27 : Int32) (g28 : Nat) (g29 : Nat) (w30 : Int32) (g31 : Nat) (g32 : Nat) (g33 : Nat) (fa : Nat → Int32) (h_i : i < 10) (h_k : k < 10) : Ct l yX8_offBy cX8_offBy 4 (some .int) 0 0 0 D T [.ref o, .int (nI i), .int (nI k)] [(o, .inr (8, [.int w0, .ref g1, .ref g2, .ref g3, .ref g4, .int (nI tp), .int w6, .int w7, .int w8, .int w9, .int w10, .int w11, .int w12, .int w13, .int w14, .ref g15, .int w16, .ref g17, .int w18, .int w19, .ref g20, .int w21, .ref g22, .ref g23, .ref g24, .int w25, .int w26, .int w27, .ref g28, .ref g29, .int w30, .ref g31, .ref g32, .ref g33])), (g1, .inl (T 0, 282, .inl fa))] (q_m_offBy T o i k w0 g1 g2 g3 g4 tp w6 w7 w8 w9 w10 w11 w12 w13 w14 g15 w16 g17 w18 w19 g20 w21 g22 g23 g24 w25 w26 w27 g28 g29 w30 g31 g32 g33 fa) := by
  refine Ct.of (cc := cX8_offBy) (maxL := 4) (ret := (some .int)) (by decide) (Nat.le_of_ble_eq_true rfl) ?_
  intro p e s m args below meth c A ls hC hnm V hl
  obtain ⟨hx, hb, hr, hml, hown, hts, hlocks⟩ := id hC
  generalize hH : s.heap = H at V ⊢
  clear hH
  have hl : lv_has ls 4 [(0, .ref o), (1, .int (nI i)), (2, .int (nI k))] := hl
  generalize hlo : ([] : List Loc) = locs at V ⊢
  clear hlo
  refine lv_aload_n hx hb dX8_offBy_0 rfl (lv_at hl 0 rfl) ?_
  refine g_get hC V (ci := 8) uwX8 0 rfl rfl 1 (by decide) w_913 rfl rfl dX8_offBy_1 ?_
  refine lv_iconst (v := (nI 4)) hx hb dX8_offBy_4 (by decide +kernel) ?_
  refine lv_iload_n hx hb dX8_offBy_5 rfl (lv_at hl 1 rfl) ?_
  refine lv_iadd hx hb dX8_offBy_6 ?_
  refine g_vi (y := (nI (4 + i))) (nI_add _ _) ?_
  refine g_iald hC V 1 rfl (vp_in_nI (by omega) (by omega)) (v := (fa (4 + i))) (congrArg _ (nI_clamp (by omega))) dX8_offBy_7 ?_
  refine lv_aload_n hx hb dX8_offBy_8 rfl (lv_at hl 0 rfl) ?_
  refine g_get hC V (ci := 8) uwX8 0 rfl rfl 1 (by decide) w_913 rfl rfl dX8_offBy_9 ?_
  refine lv_bipush (v := (nI 14)) hx hb dX8_offBy_12 (by decide +kernel) ?_
  refine lv_iload_n hx hb dX8_offBy_14 rfl (lv_at hl 2 rfl) ?_
  refine lv_iadd hx hb dX8_offBy_15 ?_
  refine g_vi (y := (nI (14 + k))) (nI_add _ _) ?_
  refine g_iald hC V 1 rfl (vp_in_nI (by omega) (by omega)) (v := (fa (14 + k))) (congrArg _ (nI_clamp (by omega))) dX8_offBy_16 ?_
  refine lv_isub hx hb dX8_offBy_17 ?_
  refine lv_istore_n (lv' := [(3, .int ((fa (4 + i)) - (fa (14 + k)))), (0, .ref o), (1, .int (nI i)), (2, .int (nI k))]) hx hb dX8_offBy_18 rfl hl (by decide) rfl (fun ls hl => ?_)
  refine lv_iload_n hx hb dX8_offBy_19 rfl (lv_at hl 0 rfl) ?_
  refine lv_if_ge (tgt := 28) hx hb dX8_offBy_20 (by decide) (fun c_1 => ?_) (fun c_1 => ?_)
  · skip
    refine lv_iload_n hx hb dX8_offBy_28 rfl (lv_at hl 0 rfl) ?_
    exact g_iret (Qr := (q_m_offBy T o i k w0 g1 g2 g3 g4 tp w6 w7 w8 w9 w10 w11 w12 w13 w14 g15 w16 g17 w18 w19 g20 w21 g22 g23 g24 w25 w26 w27 g28 g29 w30 g31 g32 g33 fa)) hC V ⟨(Nat.le_of_ble_eq_true rfl), (Nat.le_of_ble_eq_true rfl)⟩ ⟨((fa (4 + i)) - (fa (14 + k))), rfl, rfl⟩ dX8_offBy_29
  · skip
    refine lv_iload_n hx hb dX8_offBy_23 rfl (lv_at hl 0 rfl) ?_
    refine lv_ineg hx hb dX8_offBy_24 ?_
    refine lv_goto (tgt := 29) hx hb dX8_offBy_25 (by decide) ?_
    exact g_iret (Qr := (q_m_offBy T o i k w0 g1 g2 g3 g4 tp w6 w7 w8 w9 w10 w11 w12 w13 w14 g15 w16 g17 w18 w19 g20 w21 g22 g23 g24 w25 w26 w27 g28 g29 w30 g31 g32 g33 fa)) hC V ⟨(Nat.le_of_ble_eq_true rfl), (Nat.le_of_ble_eq_true rfl)⟩ ⟨(-((fa (4 + i)) - (fa (14 + k)))), rfl, rfl⟩ dX8_offBy_29

/-- the ropes that are laid, as numbers -/
def toF (f : Nat → Int32) (j : Nat) : Nat := (f j).toNatClampNeg
def itF (f : Nat → Int32) : Nat → Nat
  | 0 => 0
  | k + 1 => toF f (itF f k)
/-- n ropes laid to n others, no two to the same -/
def LI (n : Nat) (f : Nat → Int32) : Prop := (∀ j, j < n → f j = nI (toF f j) ∧ toF f j < 7) ∧ ∀ i j, i < n → j < n → toF f i = toF f j → i = j
def LF (n : Nat) (f : Nat → Int32) : Prop := LI n f ∧ ∀ j, j < n → toF f j < n
theorem lf_lt {n : Nat} {f : Nat → Int32} (h : LF n f) (hn : 1 ≤ n) : ∀ k, itF f k < n
  | 0 => hn
  | k + 1 => h.2 _ (lf_lt h hn k)
theorem lf_back {n : Nat} {f : Nat → Int32} (h : LF n f) (hn : 1 ≤ n) : ∀ a b, itF f (a + b) = itF f a → itF f b = 0
  | 0, b, e => by rw [Nat.zero_add] at e; exact e
  | a + 1, b, e => by
    rw [show a + 1 + b = (a + b) + 1 by omega] at e
    exact lf_back h hn a b (h.1.2 _ _ (lf_lt h hn _) (lf_lt h hn _) e)
theorem lf_cyc {n : Nat} {f : Nat → Int32} (h : LF n f) (hn : 1 ≤ n) : ∃ m, 1 ≤ m ∧ m ≤ n ∧ itF f m = 0 := by
  obtain ⟨a, b, hab, hb, e⟩ := pigeon n (itF f) (fun k _ => lf_lt h hn k)
  refine ⟨b - a, by omega, by omega, lf_back h hn a (b - a) ?_⟩
  rw [show a + (b - a) = b by omega]
  exact e.symm
theorem lf_nx {n k a j : Nat} {f : Nat → Int32} (h : a = itF f k ∧ a < n) (e : f a = nI j) (hj : j < n) (hn : n ≤ 7) : j = itF f (k + 1) ∧ j < n := by
  refine ⟨?_, hj⟩
  show j = (f (itF f k)).toNatClampNeg
  rw [← h.1, e, nI_clamp (by omega)]
theorem lf_bd {n a : Nat} {f : Nat → Int32} (h : LF n f) (ha : a < n) : bd (f a) n := ⟨_, h.2 a ha, (h.1.1 a ha).1⟩
theorem lf_go {f : Nat → Int32} {m k j n : Nat} (hm : itF f m = 0) (h : j = itF f (k + 1) ∧ j < n) (hk : k < m) (hj : ¬ j = 0) : k + 1 < m := by
  have : k + 1 ≠ m := by
    rintro rfl
    exact hj (h.1.trans hm)
  omega
theorem li_put {n k : Nat} {f : Nat → Int32} (h : LI n f) (hk : k < 7) (hne : ∀ j, j < n → toF f j ≠ k) : LI (n + 1) (upd f n (nI k)) := by
  have e1 : ∀ j, j < n → toF (upd f n (nI k)) j = toF f j := fun j hj => by unfold toF; rw [up_other (by omega)]
  have e2 : toF (upd f n (nI k)) n = k := by unfold toF; rw [up_same, nI_clamp (by omega)]
  refine ⟨fun j hj => ?_, fun i j hi hj e => ?_⟩
  · by_cases c : j = n
    · subst c; rw [e2, up_same]; exact ⟨rfl, hk⟩
    · rw [e1 j (by omega), up_other c]; exact h.1 j (by omega)
  · by_cases ci : i = n
    · by_cases cj : j = n
      · omega
      · subst ci; rw [e2, e1 j (by omega)] at e; exact absurd e.symm (hne j (by omega))
    · by_cases cj : j = n
      · subst cj; rw [e2, e1 i (by omega)] at e; exact absurd e (hne i (by omega))
      · rw [e1 i (by omega), e1 j (by omega)] at e; exact h.2 i j (by omega) (by omega) e
/-- the bits of used are the fires that are taken -/
def UB (n u : Nat) (f : Nat → Int32) : Prop := u < 128 ∧ ∀ j, j < n → u.testBit (toF f j) = true
theorem ub_put {n u k : Nat} {f : Nat → Int32} (h : UB n u f) (hk : k < 7) : UB (n + 1) (u ||| 2 ^ k) (upd f n (nI k)) := by
  refine ⟨Nat.or_lt_two_pow (n := 7) h.1 (Nat.pow_lt_pow_right (by decide) hk), fun j hj => ?_⟩
  rw [Nat.testBit_or]
  by_cases c : j = n
  · subst c
    have : toF (upd f j (nI k)) j = k := by unfold toF; rw [up_same, nI_clamp (by omega)]
    rw [this, Nat.testBit_two_pow_self, Bool.or_true]
  · have : toF (upd f n (nI k)) j = toF f j := by unfold toF; rw [up_other c]
    rw [this, h.2 j (by omega), Bool.true_or]
theorem ub_free {n u k : Nat} {f : Nat → Int32} (h : UB n u f) (hk : u.testBit k = false) : ∀ j, j < n → toF f j ≠ k := fun j hj e => by
  have := h.2 j hj
  rw [e, hk] at this
  cases this
theorem ub_ext {n u : Nat} {f g : Nat → Int32} (h : UB n u f) (e : ∀ j, j < n → g j = f j) : UB n u g := ⟨h.1, fun j hj => by have := h.2 j hj; unfold toF at this ⊢; rw [e j hj]; exact this⟩
theorem li_ext {n : Nat} {f g : Nat → Int32} (h : LI n f) (e : ∀ j, j < n → g j = f j) : LI n g := by
  have et : ∀ j, j < n → toF g j = toF f j := fun j hj => by unfold toF; rw [e j hj]
  exact ⟨fun j hj => by rw [et j hj, e j hj]; exact h.1 j hj, fun i j hi hj q => h.2 i j hi hj (by rw [← et i hi, ← et j hj]; exact q)⟩
theorem or7 {u k : Nat} (hu : u < 128) (hk : k < 7) : nI u ||| nI (2 ^ k) = nI (u ||| 2 ^ k) := by
  have H : ∀ (u : Fin 128) (k : Fin 7), nI u.1 ||| nI (2 ^ k.1) = nI (u.1 ||| 2 ^ k.1) := by decide +kernel
  exact H ⟨u, hu⟩ ⟨k, hk⟩
theorem in7 {u k : Nat} (hu : u < 128) (hk : k < 7) : (lg_cmp ((nI u).toInt64 >>> ((nI k).toInt64 &&& 63) &&& (nI 1).toInt64) (nI 1).toInt64 = 0) ↔ u.testBit k = true := by
  have H : ∀ (u : Fin 128) (k : Fin 7), (lg_cmp ((nI u.1).toInt64 >>> ((nI k.1).toInt64 &&& 63) &&& (nI 1).toInt64) (nI 1).toInt64 = 0) ↔ u.1.testBit k.1 = true := by decide +kernel
  exact H ⟨u, hu⟩ ⟨k, hk⟩

def q_m_isIn7 (T : Nat → ClassId) (u : Nat) (k : Nat) : Option Value → va_W → Prop := fun rr ww => (rr = some (.int (nI 1)) ∧ ww = [] ∧ u.testBit k = true) ∨ (rr = some (.int (nI 0)) ∧ ww = [] ∧ u.testBit k = false)
set_option maxHeartbeats 4000000 in
set_option maxRecDepth 100000 in
theorem m_isIn7 (l : Launch) (D : va_G) (T : Nat → ClassId) (u : Nat) (k : Nat) (h_u : u < 128) (h_k : k < 7) : Ct l yX8_isIn cX8_isIn 3 (some .boolean) 0 0 0 D T [.long (nI u).toInt64, .int (nI k)] [] (q_m_isIn7 T u k) := by
  refine Ct.of (cc := cX8_isIn) (maxL := 3) (ret := (some .boolean)) (by decide) (Nat.le_of_ble_eq_true rfl) ?_
  intro p e s m args below meth c A ls hC hnm V hl
  obtain ⟨hx, hb, hr, hml, hown, hts, hlocks⟩ := id hC
  generalize hH : s.heap = H at V ⊢
  clear hH
  have hl : lv_has ls 3 [(0, .long (nI u).toInt64), (2, .int (nI k))] := hl
  generalize hlo : ([] : List Loc) = locs at V ⊢
  clear hlo
  refine lv_lload_n hx hb dX8_isIn_0 rfl (lv_at hl 0 rfl) ?_
  refine lv_iload_n hx hb dX8_isIn_1 rfl (lv_at hl 1 rfl) ?_
  refine lv_lshr hx hb dX8_isIn_2 rfl ?_
  refine lv_lconst (v := (nI 1).toInt64) hx hb dX8_isIn_3 (by decide +kernel) ?_
  refine lv_land hx hb dX8_isIn_4 ?_
  refine lv_lconst (v := (nI 1).toInt64) hx hb dX8_isIn_5 (by decide +kernel) ?_
  refine W.lcmp hx hb dX8_isIn_6 ?_
  refine lv_if_ne (tgt := 14) hx hb dX8_isIn_7 (by decide) (fun c_1 => ?_) (fun c_1 => ?_)
  · skip
    refine lv_iconst (v := (nI 0)) hx hb dX8_isIn_14 (by decide +kernel) ?_
    exact g_zret (Qr := (q_m_isIn7 T u k)) hC V ⟨(Nat.le_of_ble_eq_true rfl), (Nat.le_of_ble_eq_true rfl)⟩ (by first | decide +kernel | exact rfl) (.inr ⟨rfl, rfl, (Bool.eq_false_iff.mpr (fun h => absurd ((in7 h_u h_k).mpr h) (by assumption)))⟩) dX8_isIn_15
  · skip
    refine lv_iconst (v := (nI 1)) hx hb dX8_isIn_10 (by decide +kernel) ?_
    refine lv_goto (tgt := 15) hx hb dX8_isIn_11 (by decide) ?_
    exact g_zret (Qr := (q_m_isIn7 T u k)) hC V ⟨(Nat.le_of_ble_eq_true rfl), (Nat.le_of_ble_eq_true rfl)⟩ (by first | decide +kernel | exact rfl) (.inl ⟨rfl, rfl, ((in7 h_u h_k).mp (by assumption))⟩) dX8_isIn_15

def q_m_isOneRing (T : Nat → ClassId) (n : Nat) (o : Nat) (w0 : Int32) (g1 : Nat) (g2 : Nat) (g3 : Nat) (g4 : Nat) (tp : Nat) (w6 : Int32) (w7 : Int32) (w8 : Int32) (w9 : Int32) (w10 : Int32) (w11 : Int32) (w12 : Int32) (w13 : Int32) (w14 : Int32) (g15 : Nat) (w16 : Int32) (g17 : Nat) (w18 : Int32) (w19 : Int32) (g20 : Nat) (w21 : Int32) (g22 : Nat) (g23 : Nat) (g24 : Nat) (w25 : Int32) (w26 : Int32) (w27 : Int32) (g28 : Nat) (g29 : Nat) (w30 : Int32) (g31 : Nat) (g32 : Nat) (g33 : Nat) (fa : Nat → Int32) (fo : Nat → Int32) : Option Value → va_W → Prop := fun rr ww => (rr = some (.int (nI 1)) ∧ ww = [(o, .inr (8, [.int w0, .ref g1, .ref g2, .ref g3, .ref g4, .int (nI tp), .int w6, .int w7, .int w8, .int w9, .int w10, .int w11, .int w12, .int w13, .int w14, .ref g15, .int w16, .ref g17, .int w18, .int w19, .ref g20, .int w21, .ref g22, .ref g23, .ref g24, .int w25, .int w26, .int w27, .ref g28, .ref g29, .int w30, .ref g31, .ref g32, .ref g33])), (g1, .inl (T 0, 282, .inl fa)), (g28, .inl (T 0, 7, .inl fo))]) ∨ (rr = some (.int (nI 0)) ∧ ww = [(o, .inr (8, [.int w0, .ref g1, .ref g2, .ref g3, .ref g4, .int (nI tp), .int w6, .int w7, .int w8, .int w9, .int w10, .int w11, .int w12, .int w13, .int w14, .ref g15, .int w16, .ref g17, .int w18, .int w19, .ref g20, .int w21, .ref g22, .ref g23, .ref g24, .int w25, .int w26, .int w27, .ref g28, .ref g29, .int w30, .ref g31, .ref g32, .ref g33])), (g1, .inl (T 0, 282, .inl fa)), (g28, .inl (T 0, 7, .inl fo))])
set_option maxHeartbeats 4000000 in
set_option maxRecDepth 100000 in
theorem m_isOneRing (l : Launch) (D : va_G) (T : Nat → ClassId) (n : Nat) (o : Nat) (w0 : Int32) (g1 : Nat) (g2 : Nat) (g3 : Nat) (g4 : Nat) (tp : Nat) (w6 : Int32) (w7 : Int32) (w8 : Int32) (w9 : Int32) (w10 : Int32) (w11 : Int32) (w12 : Int32) (w13 : Int32) (w14 : Int32) (g15 : Nat) (w16 : Int32) (g17 : Nat) (w18 : Int32) (w19 : Int32) (g20 : Nat) (w21 : Int32) (g22 : Nat) (g23 : Nat) (g24 : Nat) (w25 : Int32) (w26 : Int32) (w27 : Int32) (g28 : Nat) (g29 : Nat) (w30 : Int32) (g31 : Nat) (g32 : Nat) (g33 : Nat) (fa : Nat → Int32) (fo : Nat → Int32) (h_a : MI n fa) (h_lf : LF n fo) (h_1 : 1 ≤ n) (h_7 : n ≤ 7) : Ct l yX8_isOneRing cX8_isOneRing 3 (some .boolean) 0 0 0 D T [.ref o] [(o, .inr (8, [.int w0, .ref g1, .ref g2, .ref g3, .ref g4, .int (nI tp), .int w6, .int w7, .int w8, .int w9, .int w10, .int w11, .int w12, .int w13, .int w14, .ref g15, .int w16, .ref g17, .int w18, .int w19, .ref g20, .int w21, .ref g22, .ref g23, .ref g24, .int w25, .int w26, .int w27, .ref g28, .ref g29, .int w30, .ref g31, .ref g32, .ref g33])), (g1, .inl (T 0, 282, .inl fa)), (g28, .inl (T 0, 7, .inl fo))] (q_m_isOneRing T n o w0 g1 g2 g3 g4 tp w6 w7 w8 w9 w10 w11 w12 w13 w14 g15 w16 g17 w18 w19 g20 w21 g22 g23 g24 w25 w26 w27 g28 g29 w30 g31 g32 g33 fa fo) := by
  refine Ct.of (cc := cX8_isOneRing) (maxL := 3) (ret := (some .boolean)) (by decide) (Nat.le_of_ble_eq_true rfl) ?_
  intro p e s m args below meth c A ls hC hnm V hl
  obtain ⟨hx, hb, hr, hml, hown, hts, hlocks⟩ := id hC
  generalize hH : s.heap = H at V ⊢
  clear hH
  have hl : lv_has ls 3 [(0, .ref o)] := hl
  generalize hlo : ([] : List Loc) = locs at V ⊢
  clear hlo
  have ms0 := ms_rf h_a
  have hn10 := h_a.1
  obtain ⟨mq, hm1, hm2, hm3⟩ := lf_cyc h_lf h_1
  have hbd : ∀ a, a < n → bd (fo a) n := fun a ha => lf_bd h_lf ha
  refine lv_iconst (v := (nI 0)) hx hb dX8_isOneRing_0 (by decide +kernel) ?_
  refine lv_istore_n (lv' := [(1, .int (nI 0)), (0, .ref o)]) hx hb dX8_isOneRing_1 rfl hl (by decide) rfl (fun ls hl => ?_)
  refine lv_iconst (v := (nI 0)) hx hb dX8_isOneRing_2 (by decide +kernel) ?_
  refine lv_istore_n (lv' := [(2, .int (nI 0)), (1, .int (nI 0)), (0, .ref o)]) hx hb dX8_isOneRing_3 rfl hl (by decide) rfl (fun ls hl => ?_)
  have L_1 : ∀ (fu : Nat) (at_ : Nat) (x4_2 : Int32) (kq : Nat), (at_ = itF fo kq ∧ at_ < n) → kq < mq → mq - kq < fu → ∀ (H : Heap) (locs : List Loc) (ls : Array Slot), gW D T A s [(o, .inr (8, [.int w0, .ref g1, .ref g2, .ref g3, .ref g4, .int (nI tp), .int w6, .int w7, .int w8, .int w9, .int w10, .int w11, .int w12, .int w13, .int w14, .ref g15, .int w16, .ref g17, .int w18, .int w19, .ref g20, .int w21, .ref g22, .ref g23, .ref g24, .int w25, .int w26, .int w27, .ref g28, .ref g29, .int w30, .ref g31, .ref g32, .ref g33])), (g1, .inl (T 0, 282, .inl fa)), (g28, .inl (T 0, 7, .inl fo))] H locs → lv_has ls 3 [(2, .int x4_2), (1, .int (nI at_)), (0, .ref o)] → W p l e (rmD 0 0 0) s m args below meth c H locs 0 0 (MQ below (gQ D A (q_m_isOneRing T n o w0 g1 g2 g3 g4 tp w6 w7 w8 w9 w10 w11 w12 w13 w14 g15 w16 g17 w18 w19 g20 w21 g22 g23 g24 w25 w26 w27 g28 g29 w30 g31 g32 g33 fa fo)) args s 0 0 A) (F0 m 4 ls []) := by
    intro fu_4
    induction fu_4 with
    | zero => intro at_ x4_2 kq hat hkq hmu; exact absurd hmu (Nat.not_lt_zero _)
    | succ fu_4 ih_4 =>
      intro at_ x4_2 kq hat hkq hmu_4 H locs ls V hl
      refine lv_aload_n hx hb dX8_isOneRing_4 rfl (lv_at hl 2 rfl) ?_
      refine g_get hC V (ci := 8) uwX8 0 rfl rfl 28 (by decide) w_940 rfl rfl dX8_isOneRing_5 ?_
      refine lv_iload_n hx hb dX8_isOneRing_8 rfl (lv_at hl 1 rfl) ?_
      obtain ⟨j_2, hj_2, ej_2⟩ := bd_ex (hbd at_ (by omega))
      refine g_iald hC V 2 rfl (vp_in_nI (by omega) (by omega)) (v := (nI j_2)) (by rw [nI_clamp (by omega)]; exact ej_2) dX8_isOneRing_9 ?_
      have hnx := lf_nx hat (by assumption) (by omega) h_7
      refine lv_istore_n (lv' := [(1, .int (nI j_2)), (2, .int x4_2), (0, .ref o)]) hx hb dX8_isOneRing_10 rfl hl (by decide) rfl (fun ls hl => ?_)
      refine lv_iinc (v := (x4_2 + 1)) (lv' := [(2, .int (x4_2 + 1)), (1, .int (nI j_2)), (0, .ref o)]) hx hb dX8_isOneRing_11 hl (k := 1) rfl rfl (by decide) rfl (fun ls hl => ?_)
      refine lv_iload_n hx hb dX8_isOneRing_14 rfl (lv_at hl 1 rfl) ?_
      refine lv_if_ne (tgt := 4) hx hb dX8_isOneRing_15 (by decide) (fun c_3 => ?_) (fun c_3 => ?_)
      · skip
        rw [show (0 : Int32) = nI 0 from rfl] at c_3
        have c_3 := b_ne (by omega) (by omega) c_3
        have hgo := lf_go hm3 hnx hkq (fun e => c_3 (by rw [e]))
        exact ih_4 j_2 (x4_2 + 1) (kq + 1) hnx hgo (by omega) _ _ _ V (lv_sub hl [0, 1, 2] rfl)
      · skip
        rw [show (0 : Int32) = nI 0 from rfl] at c_3
        have c_3 := b_eq (by omega) (by omega) c_3
        refine lv_iload_n hx hb dX8_isOneRing_18 rfl (lv_at hl 0 rfl) ?_
        refine lv_aload_n hx hb dX8_isOneRing_19 rfl (lv_at hl 2 rfl) ?_
        refine g_get hC V (ci := 8) uwX8 0 rfl rfl 1 (by decide) w_913 rfl rfl dX8_isOneRing_20 ?_
        refine lv_iconst (v := (nI 0)) hx hb dX8_isOneRing_23 (by decide +kernel) ?_
        refine g_iald hC V 1 rfl (vp_in_nI (by decide) (by decide)) (v := (nI n)) (by rw [nI_clamp (by decide)]; first | rfl | exact h_a.2.1) dX8_isOneRing_24 ?_
        refine lv_icmp_ne (tgt := 32) hx hb dX8_isOneRing_25 (by decide) (fun c_4 => ?_) (fun c_4 => ?_)
        · skip
          refine lv_iconst (v := (nI 0)) hx hb dX8_isOneRing_32 (by decide +kernel) ?_
          exact g_zret (Qr := (q_m_isOneRing T n o w0 g1 g2 g3 g4 tp w6 w7 w8 w9 w10 w11 w12 w13 w14 g15 w16 g17 w18 w19 g20 w21 g22 g23 g24 w25 w26 w27 g28 g29 w30 g31 g32 g33 fa fo)) hC V ⟨(Nat.le_of_ble_eq_true rfl), (Nat.le_of_ble_eq_true rfl)⟩ (by first | decide +kernel | exact rfl) (.inr ⟨rfl, rfl⟩) dX8_isOneRing_33
        · skip
          refine lv_iconst (v := (nI 1)) hx hb dX8_isOneRing_28 (by decide +kernel) ?_
          refine lv_goto (tgt := 33) hx hb dX8_isOneRing_29 (by decide) ?_
          exact g_zret (Qr := (q_m_isOneRing T n o w0 g1 g2 g3 g4 tp w6 w7 w8 w9 w10 w11 w12 w13 w14 g15 w16 g17 w18 w19 g20 w21 g22 g23 g24 w25 w26 w27 g28 g29 w30 g31 g32 g33 fa fo)) hC V ⟨(Nat.le_of_ble_eq_true rfl), (Nat.le_of_ble_eq_true rfl)⟩ (by first | decide +kernel | exact rfl) (.inl ⟨rfl, rfl⟩) dX8_isOneRing_33
  exact L_1 _ 0 (nI 0) 0 ⟨rfl, h_1⟩ (by omega) (Nat.lt_succ_self _) _ _ _ V (lv_sub hl [0, 1, 2] rfl)

theorem lf_of {k n : Nat} {f : Nat → Int32} (h : LI k f) (h2 : ∀ j, j < k → toF f j < n) (e : k = n) : LF n f := by subst e; exact ⟨h, h2⟩
theorem lt_put {n m k : Nat} {f g : Nat → Int32} (h : ∀ j, j < m → toF f j < n) (e : ∀ j, j < m → g j = f j) (hk : k < n) (hn : n ≤ 7) : ∀ j, j < m + 1 → toF (upd g m (nI k)) j < n := by
  intro j hj
  by_cases c : j = m
  · subst c; unfold toF; rw [up_same, nI_clamp (by omega)]; exact hk
  · unfold toF; rw [up_other c, e j (by omega)]; exact h j (by omega)
theorem li_0 (f : Nat → Int32) : LI 0 f := ⟨fun j h => absurd h (Nat.not_lt_zero _), fun i j h => absurd h (Nat.not_lt_zero _)⟩
theorem ub_0 (f : Nat → Int32) : UB 0 0 f := ⟨by decide, fun j h => absurd h (Nat.not_lt_zero _)⟩

def q_m_lays7 (T : Nat → ClassId) (n : Nat) (o : Nat) (u : Nat) (sum : Int32) (w0 : Int32) (g1 : Nat) (g2 : Nat) (g3 : Nat) (g4 : Nat) (tp : Nat) (w6 : Int32) (w7 : Int32) (w8 : Int32) (w9 : Int32) (w10 : Int32) (w11 : Int32) (w12 : Int32) (w13 : Int32) (w14 : Int32) (g15 : Nat) (w16 : Int32) (g17 : Nat) (w18 : Int32) (w19 : Int32) (g20 : Nat) (w21 : Int32) (g22 : Nat) (g23 : Nat) (g24 : Nat) (w25 : Int32) (w26 : Int32) (w27 : Int32) (g28 : Nat) (g29 : Nat) (w30 : Int32) (g31 : Nat) (g32 : Nat) (g33 : Nat) (fa : Nat → Int32) (fo : Nat → Int32) (fp : Nat → Int32) : Option Value → va_W → Prop := fun rr ww => (∃ (bs : Int32) (go : Nat → Int32) (gp : Nat → Int32), rr = none ∧ ww = [(o, .inr (8, [.int w0, .ref g1, .ref g2, .ref g3, .ref g4, .int (nI tp), .int w6, .int w7, .int w8, .int w9, .int w10, .int w11, .int w12, .int w13, .int w14, .ref g15, .int w16, .ref g17, .int w18, .int w19, .ref g20, .int w21, .ref g22, .ref g23, .ref g24, .int w25, .int w26, .int w27, .ref g28, .ref g29, .int bs, .ref g31, .ref g32, .ref g33])), (g1, .inl (T 0, 282, .inl fa)), (g28, .inl (T 0, 7, .inl go)), (g29, .inl (T 0, 7, .inl gp))] ∧ (∀ j, j < 7 → go j = fo j))
set_option maxHeartbeats 4000000 in
set_option maxRecDepth 100000 in
theorem m_lays7 (l : Launch) (D : va_G) (T : Nat → ClassId) (n : Nat) (o : Nat) (u : Nat) (sum : Int32) (w0 : Int32) (g1 : Nat) (g2 : Nat) (g3 : Nat) (g4 : Nat) (tp : Nat) (w6 : Int32) (w7 : Int32) (w8 : Int32) (w9 : Int32) (w10 : Int32) (w11 : Int32) (w12 : Int32) (w13 : Int32) (w14 : Int32) (g15 : Nat) (w16 : Int32) (g17 : Nat) (w18 : Int32) (w19 : Int32) (g20 : Nat) (w21 : Int32) (g22 : Nat) (g23 : Nat) (g24 : Nat) (w25 : Int32) (w26 : Int32) (w27 : Int32) (g28 : Nat) (g29 : Nat) (w30 : Int32) (g31 : Nat) (g32 : Nat) (g33 : Nat) (fa : Nat → Int32) (fo : Nat → Int32) (fp : Nat → Int32) (h_a : MI n fa) (h_li : LI 7 fo) (h_lt : ∀ j, j < 7 → toF fo j < n) (h_ub : UB 7 u fo) (h_1 : 1 ≤ n) (h_7 : n ≤ 7) (h_kn : 7 ≤ n) : Ct l yX8_lays cX8_lays 5 none 2 0 0 D T [.ref o, .int (nI 7), .int (nI u), .int sum] [(o, .inr (8, [.int w0, .ref g1, .ref g2, .ref g3, .ref g4, .int (nI tp), .int w6, .int w7, .int w8, .int w9, .int w10, .int w11, .int w12, .int w13, .int w14, .ref g15, .int w16, .ref g17, .int w18, .int w19, .ref g20, .int w21, .ref g22, .ref g23, .ref g24, .int w25, .int w26, .int w27, .ref g28, .ref g29, .int w30, .ref g31, .ref g32, .ref g33])), (g1, .inl (T 0, 282, .inl fa)), (g28, .inl (T 0, 7, .inl fo)), (g29, .inl (T 0, 7, .inl fp))] (q_m_lays7 T n o u sum w0 g1 g2 g3 g4 tp w6 w7 w8 w9 w10 w11 w12 w13 w14 g15 w16 g17 w18 w19 g20 w21 g22 g23 g24 w25 w26 w27 g28 g29 w30 g31 g32 g33 fa fo fp) := by
  refine Ct.of (cc := cX8_lays) (maxL := 5) (ret := none) (by decide) (Nat.le_of_ble_eq_true rfl) ?_
  intro p e s m args below meth c A ls hC hnm V hl
  obtain ⟨hx, hb, hr, hml, hown, hts, hlocks⟩ := id hC
  generalize hH : s.heap = H at V ⊢
  clear hH
  have hl : lv_has ls 5 [(0, .ref o), (1, .int (nI 7)), (2, .int (nI u)), (3, .int sum)] := hl
  generalize hlo : ([] : List Loc) = locs at V ⊢
  clear hlo
  have ms0 := ms_rf h_a
  have hn10 := h_a.1
  have hu := h_ub.1
  refine lv_iload_n hx hb dX8_lays_0 rfl (lv_at hl 1 rfl) ?_
  refine lv_aload_n hx hb dX8_lays_1 rfl (lv_at hl 0 rfl) ?_
  refine g_get hC V (ci := 8) uwX8 0 rfl rfl 1 (by decide) w_913 rfl rfl dX8_lays_2 ?_
  refine lv_iconst (v := (nI 0)) hx hb dX8_lays_5 (by decide +kernel) ?_
  refine g_iald hC V 1 rfl (vp_in_nI (by decide) (by decide)) (v := (nI n)) (by rw [nI_clamp (by decide)]; first | rfl | exact h_a.2.1) dX8_lays_6 ?_
  refine lv_icmp_ne (tgt := 69) hx hb dX8_lays_7 (by decide) (fun c_1 => ?_) (fun c_1 => ?_)
  · skip
    have c_1 := b_ne (by omega) (by omega) c_1
    exact (by omega : False).elim
  · skip
    have c_1 := b_eq (by omega) (by omega) c_1
    refine lv_aload_n hx hb dX8_lays_10 rfl (lv_at hl 0 rfl) ?_
    refine g_callVU (nA := 0) hC V hl.1 (m_isOneRing l D T n o w0 g1 g2 g3 g4 tp w6 w7 w8 w9 w10 w11 w12 w13 w14 g15 w16 g17 w18 w19 g20 w21 g22 g23 g24 w25 w26 w27 g28 g29 w30 g31 g32 g33 fa fo h_a (lf_of h_li h_lt (by omega)) h_1 h_7) w_1324 w_1326 w_s76 w_9 w_1327 (by decide +kernel) rfl ⟨(Nat.le_of_ble_eq_true rfl), (Nat.le_of_ble_eq_true rfl)⟩ 0 (ci := 8) rfl rfl [0, 1, 2] rfl rfl (Nat.le_of_ble_eq_true rfl) dX8_lays_11 ⟨(Nat.le_of_ble_eq_true rfl), (Nat.le_of_ble_eq_true rfl)⟩ rfl (fun r w1 H locs hQ V => ?_)
    rcases hQ with ⟨rfl, rfl⟩ | ⟨rfl, rfl⟩
    · have V : gW D T A s [(o, .inr (8, [.int w0, .ref g1, .ref g2, .ref g3, .ref g4, .int (nI tp), .int w6, .int w7, .int w8, .int w9, .int w10, .int w11, .int w12, .int w13, .int w14, .ref g15, .int w16, .ref g17, .int w18, .int w19, .ref g20, .int w21, .ref g22, .ref g23, .ref g24, .int w25, .int w26, .int w27, .ref g28, .ref g29, .int w30, .ref g31, .ref g32, .ref g33])), (g1, .inl (T 0, 282, .inl fa)), (g28, .inl (T 0, 7, .inl fo)), (g29, .inl (T 0, 7, .inl fp))] H locs := V _ [0, 0, 0] rfl rfl rfl (by decide +kernel) rfl
      show W p l e _ s m args below meth c H locs _ _ _ (F0 m 14 ls [.int (nI 1)])
      refine lv_if_eq (tgt := 33) hx hb dX8_lays_14 (by decide) (fun c => absurd (show (nI 1) = 0 from c) (by decide +kernel)) (fun _ => ?_)
      refine lv_aload_n hx hb dX8_lays_17 rfl (lv_at hl 0 rfl) ?_
      refine g_get hC V (ci := 8) uwX8 0 rfl rfl 30 (by decide) w_942 rfl rfl dX8_lays_18 ?_
      refine lv_iconst (v := (-1)) hx hb dX8_lays_21 (by decide +kernel) ?_
      refine lv_icmp_eq (tgt := 34) hx hb dX8_lays_22 (by decide) (fun c_2 => ?_) (fun c_2 => ?_)
      · skip
        refine lv_aload_n hx hb dX8_lays_34 rfl (lv_at hl 0 rfl) ?_
        refine lv_iload_n hx hb dX8_lays_35 rfl (lv_at hl 3 rfl) ?_
        refine g_put hC V (ci := 8) uwX8 tyX8 tyX8_ok nmX8 0 rfl rfl 30 (by decide) w_942 rfl rfl rfl rfl (Nat.le_of_ble_eq_true rfl) (ws' := [(o, .inr (8, [.int w0, .ref g1, .ref g2, .ref g3, .ref g4, .int (nI tp), .int w6, .int w7, .int w8, .int w9, .int w10, .int w11, .int w12, .int w13, .int w14, .ref g15, .int w16, .ref g17, .int w18, .int w19, .ref g20, .int w21, .ref g22, .ref g23, .ref g24, .int w25, .int w26, .int w27, .ref g28, .ref g29, .int sum, .ref g31, .ref g32, .ref g33])), (g1, .inl (T 0, 282, .inl fa)), (g28, .inl (T 0, 7, .inl fo)), (g29, .inl (T 0, 7, .inl fp))]) rfl dX8_lays_36 (fun H locs V => ?_)
        refine lv_iconst (v := (nI 0)) hx hb dX8_lays_39 (by decide +kernel) ?_
        refine lv_istore (lv' := [(4, .int (nI 0)), (0, .ref o), (1, .int (nI 7)), (2, .int (nI u)), (3, .int sum)]) hx hb dX8_lays_40 hl (by decide) rfl (fun ls hl => ?_)
        have L_3 : ∀ (fu : Nat) (k42 : Nat) (gb42 : Nat → Int32), k42 ≤ 7 → 7 - k42 < fu → ∀ (H : Heap) (locs : List Loc) (ls : Array Slot), gW D T A s [(o, .inr (8, [.int w0, .ref g1, .ref g2, .ref g3, .ref g4, .int (nI tp), .int w6, .int w7, .int w8, .int w9, .int w10, .int w11, .int w12, .int w13, .int w14, .ref g15, .int w16, .ref g17, .int w18, .int w19, .ref g20, .int w21, .ref g22, .ref g23, .ref g24, .int w25, .int w26, .int w27, .ref g28, .ref g29, .int sum, .ref g31, .ref g32, .ref g33])), (g1, .inl (T 0, 282, .inl fa)), (g28, .inl (T 0, 7, .inl fo)), (g29, .inl (T 0, 7, .inl gb42))] H locs → lv_has ls 5 [(4, .int (nI k42)), (0, .ref o), (1, .int (nI 7)), (2, .int (nI u)), (3, .int sum)] → W p l e (rmD 2 0 0) s m args below meth c H locs 0 0 (MQ below (gQ D A (q_m_lays7 T n o u sum w0 g1 g2 g3 g4 tp w6 w7 w8 w9 w10 w11 w12 w13 w14 g15 w16 g17 w18 w19 g20 w21 g22 g23 g24 w25 w26 w27 g28 g29 w30 g31 g32 g33 fa fo fp)) args s 0 0 A) (F0 m 42 ls []) := by
          intro fu_42
          induction fu_42 with
          | zero => intro k42 gb42 hk42 hmu; exact absurd hmu (Nat.not_lt_zero _)
          | succ fu_42 ih_42 =>
            intro k42 gb42 hk42 hmu_42 H locs ls V hl
            refine lv_iload hx hb dX8_lays_42 (lv_at hl 0 rfl) ?_
            refine lv_iload_n hx hb dX8_lays_44 rfl (lv_at hl 2 rfl) ?_
            refine lv_icmp_ge (tgt := 68) hx hb dX8_lays_45 (by decide) (fun c_4 => ?_) (fun c_4 => ?_)
            · skip
              have c_4 := b_le (by omega) (by omega) c_4
              exact g_vret (Qr := (q_m_lays7 T n o u sum w0 g1 g2 g3 g4 tp w6 w7 w8 w9 w10 w11 w12 w13 w14 g15 w16 g17 w18 w19 g20 w21 g22 g23 g24 w25 w26 w27 g28 g29 w30 g31 g32 g33 fa fo fp)) hC V ⟨(Nat.le_of_ble_eq_true rfl), (Nat.le_of_ble_eq_true rfl)⟩ ⟨sum, fo, gb42, rfl, rfl, (fun _ _ => rfl)⟩ dX8_lays_68
            · skip
              have c_4 := b_nle (by omega) (by omega) c_4
              refine lv_aload_n hx hb dX8_lays_48 rfl (lv_at hl 1 rfl) ?_
              refine g_get hC V (ci := 8) uwX8 0 rfl rfl 29 (by decide) w_941 rfl rfl dX8_lays_49 ?_
              refine lv_iload hx hb dX8_lays_52 (lv_at hl 0 rfl) ?_
              refine lv_aload_n hx hb dX8_lays_54 rfl (lv_at hl 1 rfl) ?_
              refine g_get hC V (ci := 8) uwX8 0 rfl rfl 28 (by decide) w_940 rfl rfl dX8_lays_55 ?_
              refine lv_iload hx hb dX8_lays_58 (lv_at hl 0 rfl) ?_
              refine g_iald hC V 2 rfl (vp_in_nI (by omega) (by omega)) (v := (fo k42)) (congrArg _ (nI_clamp (by omega))) dX8_lays_60 ?_
              refine g_iast hC V 3 rfl (vp_in_nI (by omega) (by omega)) (f' := (upd gb42 k42 (fo k42))) (by rw [nI_clamp (by omega)]) (ws' := [(o, .inr (8, [.int w0, .ref g1, .ref g2, .ref g3, .ref g4, .int (nI tp), .int w6, .int w7, .int w8, .int w9, .int w10, .int w11, .int w12, .int w13, .int w14, .ref g15, .int w16, .ref g17, .int w18, .int w19, .ref g20, .int w21, .ref g22, .ref g23, .ref g24, .int w25, .int w26, .int w27, .ref g28, .ref g29, .int sum, .ref g31, .ref g32, .ref g33])), (g1, .inl (T 0, 282, .inl fa)), (g28, .inl (T 0, 7, .inl fo)), (g29, .inl (T 0, 7, .inl (upd gb42 k42 (fo k42))))]) rfl dX8_lays_61 (fun H locs V => ?_)
              refine lv_iinc (v := (nI (k42 + 1))) (lv' := [(4, .int (nI (k42 + 1))), (0, .ref o), (1, .int (nI 7)), (2, .int (nI u)), (3, .int sum)]) hx hb dX8_lays_62 hl (k := 0) rfl (nI_1 _) (by decide) rfl (fun ls hl => ?_)
              refine lv_goto (tgt := 42) hx hb dX8_lays_65 (by decide) ?_
              exact ih_42 (k42 + 1) (upd gb42 k42 (fo k42)) (by omega) (by omega) _ _ _ V (lv_sub hl [0, 1, 2, 3, 4] rfl)
        exact L_3 _ 0 fp (by omega) (Nat.lt_succ_self _) _ _ _ V (lv_sub hl [0, 1, 2, 3, 4] rfl)
      · skip
        refine lv_iload_n hx hb dX8_lays_25 rfl (lv_at hl 3 rfl) ?_
        refine lv_aload_n hx hb dX8_lays_26 rfl (lv_at hl 0 rfl) ?_
        refine g_get hC V (ci := 8) uwX8 0 rfl rfl 30 (by decide) w_942 rfl rfl dX8_lays_27 ?_
        refine lv_icmp_lt (tgt := 34) hx hb dX8_lays_30 (by decide) (fun c_5 => ?_) (fun c_5 => ?_)
        · skip
          refine lv_aload_n hx hb dX8_lays_34 rfl (lv_at hl 0 rfl) ?_
          refine lv_iload_n hx hb dX8_lays_35 rfl (lv_at hl 3 rfl) ?_
          refine g_put hC V (ci := 8) uwX8 tyX8 tyX8_ok nmX8 0 rfl rfl 30 (by decide) w_942 rfl rfl rfl rfl (Nat.le_of_ble_eq_true rfl) (ws' := [(o, .inr (8, [.int w0, .ref g1, .ref g2, .ref g3, .ref g4, .int (nI tp), .int w6, .int w7, .int w8, .int w9, .int w10, .int w11, .int w12, .int w13, .int w14, .ref g15, .int w16, .ref g17, .int w18, .int w19, .ref g20, .int w21, .ref g22, .ref g23, .ref g24, .int w25, .int w26, .int w27, .ref g28, .ref g29, .int sum, .ref g31, .ref g32, .ref g33])), (g1, .inl (T 0, 282, .inl fa)), (g28, .inl (T 0, 7, .inl fo)), (g29, .inl (T 0, 7, .inl fp))]) rfl dX8_lays_36 (fun H locs V => ?_)
          refine lv_iconst (v := (nI 0)) hx hb dX8_lays_39 (by decide +kernel) ?_
          refine lv_istore (lv' := [(4, .int (nI 0)), (0, .ref o), (1, .int (nI 7)), (2, .int (nI u)), (3, .int sum)]) hx hb dX8_lays_40 hl (by decide) rfl (fun ls hl => ?_)
          have L_6 : ∀ (fu : Nat) (k42 : Nat) (gb42 : Nat → Int32), k42 ≤ 7 → 7 - k42 < fu → ∀ (H : Heap) (locs : List Loc) (ls : Array Slot), gW D T A s [(o, .inr (8, [.int w0, .ref g1, .ref g2, .ref g3, .ref g4, .int (nI tp), .int w6, .int w7, .int w8, .int w9, .int w10, .int w11, .int w12, .int w13, .int w14, .ref g15, .int w16, .ref g17, .int w18, .int w19, .ref g20, .int w21, .ref g22, .ref g23, .ref g24, .int w25, .int w26, .int w27, .ref g28, .ref g29, .int sum, .ref g31, .ref g32, .ref g33])), (g1, .inl (T 0, 282, .inl fa)), (g28, .inl (T 0, 7, .inl fo)), (g29, .inl (T 0, 7, .inl gb42))] H locs → lv_has ls 5 [(4, .int (nI k42)), (0, .ref o), (1, .int (nI 7)), (2, .int (nI u)), (3, .int sum)] → W p l e (rmD 2 0 0) s m args below meth c H locs 0 0 (MQ below (gQ D A (q_m_lays7 T n o u sum w0 g1 g2 g3 g4 tp w6 w7 w8 w9 w10 w11 w12 w13 w14 g15 w16 g17 w18 w19 g20 w21 g22 g23 g24 w25 w26 w27 g28 g29 w30 g31 g32 g33 fa fo fp)) args s 0 0 A) (F0 m 42 ls []) := by
            intro fu_42
            induction fu_42 with
            | zero => intro k42 gb42 hk42 hmu; exact absurd hmu (Nat.not_lt_zero _)
            | succ fu_42 ih_42 =>
              intro k42 gb42 hk42 hmu_42 H locs ls V hl
              refine lv_iload hx hb dX8_lays_42 (lv_at hl 0 rfl) ?_
              refine lv_iload_n hx hb dX8_lays_44 rfl (lv_at hl 2 rfl) ?_
              refine lv_icmp_ge (tgt := 68) hx hb dX8_lays_45 (by decide) (fun c_7 => ?_) (fun c_7 => ?_)
              · skip
                have c_7 := b_le (by omega) (by omega) c_7
                exact g_vret (Qr := (q_m_lays7 T n o u sum w0 g1 g2 g3 g4 tp w6 w7 w8 w9 w10 w11 w12 w13 w14 g15 w16 g17 w18 w19 g20 w21 g22 g23 g24 w25 w26 w27 g28 g29 w30 g31 g32 g33 fa fo fp)) hC V ⟨(Nat.le_of_ble_eq_true rfl), (Nat.le_of_ble_eq_true rfl)⟩ ⟨sum, fo, gb42, rfl, rfl, (fun _ _ => rfl)⟩ dX8_lays_68
              · skip
                have c_7 := b_nle (by omega) (by omega) c_7
                refine lv_aload_n hx hb dX8_lays_48 rfl (lv_at hl 1 rfl) ?_
                refine g_get hC V (ci := 8) uwX8 0 rfl rfl 29 (by decide) w_941 rfl rfl dX8_lays_49 ?_
                refine lv_iload hx hb dX8_lays_52 (lv_at hl 0 rfl) ?_
                refine lv_aload_n hx hb dX8_lays_54 rfl (lv_at hl 1 rfl) ?_
                refine g_get hC V (ci := 8) uwX8 0 rfl rfl 28 (by decide) w_940 rfl rfl dX8_lays_55 ?_
                refine lv_iload hx hb dX8_lays_58 (lv_at hl 0 rfl) ?_
                refine g_iald hC V 2 rfl (vp_in_nI (by omega) (by omega)) (v := (fo k42)) (congrArg _ (nI_clamp (by omega))) dX8_lays_60 ?_
                refine g_iast hC V 3 rfl (vp_in_nI (by omega) (by omega)) (f' := (upd gb42 k42 (fo k42))) (by rw [nI_clamp (by omega)]) (ws' := [(o, .inr (8, [.int w0, .ref g1, .ref g2, .ref g3, .ref g4, .int (nI tp), .int w6, .int w7, .int w8, .int w9, .int w10, .int w11, .int w12, .int w13, .int w14, .ref g15, .int w16, .ref g17, .int w18, .int w19, .ref g20, .int w21, .ref g22, .ref g23, .ref g24, .int w25, .int w26, .int w27, .ref g28, .ref g29, .int sum, .ref g31, .ref g32, .ref g33])), (g1, .inl (T 0, 282, .inl fa)), (g28, .inl (T 0, 7, .inl fo)), (g29, .inl (T 0, 7, .inl (upd gb42 k42 (fo k42))))]) rfl dX8_lays_61 (fun H locs V => ?_)
                refine lv_iinc (v := (nI (k42 + 1))) (lv' := [(4, .int (nI (k42 + 1))), (0, .ref o), (1, .int (nI 7)), (2, .int (nI u)), (3, .int sum)]) hx hb dX8_lays_62 hl (k := 0) rfl (nI_1 _) (by decide) rfl (fun ls hl => ?_)
                refine lv_goto (tgt := 42) hx hb dX8_lays_65 (by decide) ?_
                exact ih_42 (k42 + 1) (upd gb42 k42 (fo k42)) (by omega) (by omega) _ _ _ V (lv_sub hl [0, 1, 2, 3, 4] rfl)
          exact L_6 _ 0 fp (by omega) (Nat.lt_succ_self _) _ _ _ V (lv_sub hl [0, 1, 2, 3, 4] rfl)
        · skip
          exact g_vret (Qr := (q_m_lays7 T n o u sum w0 g1 g2 g3 g4 tp w6 w7 w8 w9 w10 w11 w12 w13 w14 g15 w16 g17 w18 w19 g20 w21 g22 g23 g24 w25 w26 w27 g28 g29 w30 g31 g32 g33 fa fo fp)) hC V ⟨(Nat.le_of_ble_eq_true rfl), (Nat.le_of_ble_eq_true rfl)⟩ ⟨w30, fo, fp, rfl, rfl, (fun _ _ => rfl)⟩ dX8_lays_33
    · have V : gW D T A s [(o, .inr (8, [.int w0, .ref g1, .ref g2, .ref g3, .ref g4, .int (nI tp), .int w6, .int w7, .int w8, .int w9, .int w10, .int w11, .int w12, .int w13, .int w14, .ref g15, .int w16, .ref g17, .int w18, .int w19, .ref g20, .int w21, .ref g22, .ref g23, .ref g24, .int w25, .int w26, .int w27, .ref g28, .ref g29, .int w30, .ref g31, .ref g32, .ref g33])), (g1, .inl (T 0, 282, .inl fa)), (g28, .inl (T 0, 7, .inl fo)), (g29, .inl (T 0, 7, .inl fp))] H locs := V _ [0, 0, 0] rfl rfl rfl (by decide +kernel) rfl
      show W p l e _ s m args below meth c H locs _ _ _ (F0 m 14 ls [.int (nI 0)])
      refine lv_if_eq (tgt := 33) hx hb dX8_lays_14 (by decide) (fun _ => ?_) (fun c => absurd (show (nI 0) = 0 by decide +kernel) c)
      exact g_vret (Qr := (q_m_lays7 T n o u sum w0 g1 g2 g3 g4 tp w6 w7 w8 w9 w10 w11 w12 w13 w14 g15 w16 g17 w18 w19 g20 w21 g22 g23 g24 w25 w26 w27 g28 g29 w30 g31 g32 g33 fa fo fp)) hC V ⟨(Nat.le_of_ble_eq_true rfl), (Nat.le_of_ble_eq_true rfl)⟩ ⟨w30, fo, fp, rfl, rfl, (fun _ _ => rfl)⟩ dX8_lays_33

def q_m_lays6 (T : Nat → ClassId) (n : Nat) (o : Nat) (u : Nat) (sum : Int32) (w0 : Int32) (g1 : Nat) (g2 : Nat) (g3 : Nat) (g4 : Nat) (tp : Nat) (w6 : Int32) (w7 : Int32) (w8 : Int32) (w9 : Int32) (w10 : Int32) (w11 : Int32) (w12 : Int32) (w13 : Int32) (w14 : Int32) (g15 : Nat) (w16 : Int32) (g17 : Nat) (w18 : Int32) (w19 : Int32) (g20 : Nat) (w21 : Int32) (g22 : Nat) (g23 : Nat) (g24 : Nat) (w25 : Int32) (w26 : Int32) (w27 : Int32) (g28 : Nat) (g29 : Nat) (w30 : Int32) (g31 : Nat) (g32 : Nat) (g33 : Nat) (fa : Nat → Int32) (fo : Nat → Int32) (fp : Nat → Int32) : Option Value → va_W → Prop := fun rr ww => (∃ (bs : Int32) (go : Nat → Int32) (gp : Nat → Int32), rr = none ∧ ww = [(o, .inr (8, [.int w0, .ref g1, .ref g2, .ref g3, .ref g4, .int (nI tp), .int w6, .int w7, .int w8, .int w9, .int w10, .int w11, .int w12, .int w13, .int w14, .ref g15, .int w16, .ref g17, .int w18, .int w19, .ref g20, .int w21, .ref g22, .ref g23, .ref g24, .int w25, .int w26, .int w27, .ref g28, .ref g29, .int bs, .ref g31, .ref g32, .ref g33])), (g1, .inl (T 0, 282, .inl fa)), (g28, .inl (T 0, 7, .inl go)), (g29, .inl (T 0, 7, .inl gp))] ∧ (∀ j, j < 6 → go j = fo j))
set_option maxHeartbeats 4000000 in
set_option maxRecDepth 100000 in
theorem m_lays6 (l : Launch) (D : va_G) (T : Nat → ClassId) (n : Nat) (o : Nat) (u : Nat) (sum : Int32) (w0 : Int32) (g1 : Nat) (g2 : Nat) (g3 : Nat) (g4 : Nat) (tp : Nat) (w6 : Int32) (w7 : Int32) (w8 : Int32) (w9 : Int32) (w10 : Int32) (w11 : Int32) (w12 : Int32) (w13 : Int32) (w14 : Int32) (g15 : Nat) (w16 : Int32) (g17 : Nat) (w18 : Int32) (w19 : Int32) (g20 : Nat) (w21 : Int32) (g22 : Nat) (g23 : Nat) (g24 : Nat) (w25 : Int32) (w26 : Int32) (w27 : Int32) (g28 : Nat) (g29 : Nat) (w30 : Int32) (g31 : Nat) (g32 : Nat) (g33 : Nat) (fa : Nat → Int32) (fo : Nat → Int32) (fp : Nat → Int32) (h_a : MI n fa) (h_li : LI 6 fo) (h_lt : ∀ j, j < 6 → toF fo j < n) (h_ub : UB 6 u fo) (h_1 : 1 ≤ n) (h_7 : n ≤ 7) (h_kn : 6 ≤ n) : Ct l yX8_lays cX8_lays 5 none 3 0 0 D T [.ref o, .int (nI 6), .int (nI u), .int sum] [(o, .inr (8, [.int w0, .ref g1, .ref g2, .ref g3, .ref g4, .int (nI tp), .int w6, .int w7, .int w8, .int w9, .int w10, .int w11, .int w12, .int w13, .int w14, .ref g15, .int w16, .ref g17, .int w18, .int w19, .ref g20, .int w21, .ref g22, .ref g23, .ref g24, .int w25, .int w26, .int w27, .ref g28, .ref g29, .int w30, .ref g31, .ref g32, .ref g33])), (g1, .inl (T 0, 282, .inl fa)), (g28, .inl (T 0, 7, .inl fo)), (g29, .inl (T 0, 7, .inl fp))] (q_m_lays6 T n o u sum w0 g1 g2 g3 g4 tp w6 w7 w8 w9 w10 w11 w12 w13 w14 g15 w16 g17 w18 w19 g20 w21 g22 g23 g24 w25 w26 w27 g28 g29 w30 g31 g32 g33 fa fo fp) := by
  refine Ct.of (cc := cX8_lays) (maxL := 5) (ret := none) (by decide) (Nat.le_of_ble_eq_true rfl) ?_
  intro p e s m args below meth c A ls hC hnm V hl
  obtain ⟨hx, hb, hr, hml, hown, hts, hlocks⟩ := id hC
  generalize hH : s.heap = H at V ⊢
  clear hH
  have hl : lv_has ls 5 [(0, .ref o), (1, .int (nI 6)), (2, .int (nI u)), (3, .int sum)] := hl
  generalize hlo : ([] : List Loc) = locs at V ⊢
  clear hlo
  have ms0 := ms_rf h_a
  have hn10 := h_a.1
  have hu := h_ub.1
  refine lv_iload_n hx hb dX8_lays_0 rfl (lv_at hl 1 rfl) ?_
  refine lv_aload_n hx hb dX8_lays_1 rfl (lv_at hl 0 rfl) ?_
  refine g_get hC V (ci := 8) uwX8 0 rfl rfl 1 (by decide) w_913 rfl rfl dX8_lays_2 ?_
  refine lv_iconst (v := (nI 0)) hx hb dX8_lays_5 (by decide +kernel) ?_
  refine g_iald hC V 1 rfl (vp_in_nI (by decide) (by decide)) (v := (nI n)) (by rw [nI_clamp (by decide)]; first | rfl | exact h_a.2.1) dX8_lays_6 ?_
  refine lv_icmp_ne (tgt := 69) hx hb dX8_lays_7 (by decide) (fun c_1 => ?_) (fun c_1 => ?_)
  · skip
    have c_1 := b_ne (by omega) (by omega) c_1
    refine lv_iconst (v := (nI 0)) hx hb dX8_lays_69 (by decide +kernel) ?_
    refine lv_istore (lv' := [(4, .int (nI 0)), (0, .ref o), (1, .int (nI 6)), (2, .int (nI u)), (3, .int sum)]) hx hb dX8_lays_70 hl (by decide) rfl (fun ls hl => ?_)
    have L_2 : ∀ (fu : Nat) (k72 : Nat) (bv : Int32) (f72 : Nat → Int32) (gb72 : Nat → Int32), k72 ≤ n → (∀ j, j < 6 → f72 j = fo j) → n - k72 < fu → ∀ (H : Heap) (locs : List Loc) (ls : Array Slot), gW D T A s [(o, .inr (8, [.int w0, .ref g1, .ref g2, .ref g3, .ref g4, .int (nI tp), .int w6, .int w7, .int w8, .int w9, .int w10, .int w11, .int w12, .int w13, .int w14, .ref g15, .int w16, .ref g17, .int w18, .int w19, .ref g20, .int w21, .ref g22, .ref g23, .ref g24, .int w25, .int w26, .int w27, .ref g28, .ref g29, .int bv, .ref g31, .ref g32, .ref g33])), (g1, .inl (T 0, 282, .inl fa)), (g28, .inl (T 0, 7, .inl f72)), (g29, .inl (T 0, 7, .inl gb72))] H locs → lv_has ls 5 [(4, .int (nI k72)), (0, .ref o), (1, .int (nI 6)), (2, .int (nI u)), (3, .int sum)] → W p l e (rmD 3 0 0) s m args below meth c H locs 0 0 (MQ below (gQ D A (q_m_lays6 T n o u sum w0 g1 g2 g3 g4 tp w6 w7 w8 w9 w10 w11 w12 w13 w14 g15 w16 g17 w18 w19 g20 w21 g22 g23 g24 w25 w26 w27 g28 g29 w30 g31 g32 g33 fa fo fp)) args s 0 0 A) (F0 m 72 ls []) := by
      intro fu_72
      induction fu_72 with
      | zero => intro k72 bv f72 gb72 hk72 hpre hmu; exact absurd hmu (Nat.not_lt_zero _)
      | succ fu_72 ih_72 =>
        intro k72 bv f72 gb72 hk72 hpre hmu_72 H locs ls V hl
        refine lv_iload hx hb dX8_lays_72 (lv_at hl 0 rfl) ?_
        refine lv_aload_n hx hb dX8_lays_74 rfl (lv_at hl 1 rfl) ?_
        refine g_get hC V (ci := 8) uwX8 0 rfl rfl 1 (by decide) w_913 rfl rfl dX8_lays_75 ?_
        refine lv_iconst (v := (nI 0)) hx hb dX8_lays_78 (by decide +kernel) ?_
        refine g_iald hC V 1 rfl (vp_in_nI (by decide) (by decide)) (v := (nI n)) (by rw [nI_clamp (by decide)]; first | rfl | exact h_a.2.1) dX8_lays_79 ?_
        refine lv_icmp_ge (tgt := 132) hx hb dX8_lays_80 (by decide) (fun c_3 => ?_) (fun c_3 => ?_)
        · skip
          have c_3 := b_le (by omega) (by omega) c_3
          exact g_vret (Qr := (q_m_lays6 T n o u sum w0 g1 g2 g3 g4 tp w6 w7 w8 w9 w10 w11 w12 w13 w14 g15 w16 g17 w18 w19 g20 w21 g22 g23 g24 w25 w26 w27 g28 g29 w30 g31 g32 g33 fa fo fp)) hC V ⟨(Nat.le_of_ble_eq_true rfl), (Nat.le_of_ble_eq_true rfl)⟩ ⟨bv, f72, gb72, rfl, rfl, hpre⟩ dX8_lays_132
        · skip
          have c_3 := b_nle (by omega) (by omega) c_3
          refine lv_iload_n hx hb dX8_lays_83 rfl (lv_at hl 3 rfl) ?_
          refine lv_i2l (v := (nI u).toInt64) hx hb dX8_lays_84 rfl ?_
          refine lv_iload hx hb dX8_lays_85 (lv_at hl 0 rfl) ?_
          refine g_callSU (nA := 2) hC V hl.1 (m_isIn7 l D T u k72 h_ub.1 (by omega)) w_1130 w_1131 w_9 w_1132 (by decide +kernel) rfl ⟨(Nat.le_of_ble_eq_true rfl), (Nat.le_of_ble_eq_true rfl)⟩ [] rfl rfl (Nat.le_of_ble_eq_true rfl) dX8_lays_87 ⟨(Nat.le_of_ble_eq_true rfl), (Nat.le_of_ble_eq_true rfl)⟩ rfl (fun r w1 H locs hQ V => ?_)
          rcases hQ with ⟨rfl, rfl, f_4⟩ | ⟨rfl, rfl, f_5⟩
          · have V : gW D T A s [(o, .inr (8, [.int w0, .ref g1, .ref g2, .ref g3, .ref g4, .int (nI tp), .int w6, .int w7, .int w8, .int w9, .int w10, .int w11, .int w12, .int w13, .int w14, .ref g15, .int w16, .ref g17, .int w18, .int w19, .ref g20, .int w21, .ref g22, .ref g23, .ref g24, .int w25, .int w26, .int w27, .ref g28, .ref g29, .int bv, .ref g31, .ref g32, .ref g33])), (g1, .inl (T 0, 282, .inl fa)), (g28, .inl (T 0, 7, .inl f72)), (g29, .inl (T 0, 7, .inl gb72))] H locs := V _ [] rfl rfl rfl (by decide +kernel) rfl
            show W p l e _ s m args below meth c H locs _ _ _ (F0 m 90 ls [.int (nI 1)])
            refine lv_if_eq (tgt := 96) hx hb dX8_lays_90 (by decide) (fun c => absurd (show (nI 1) = 0 from c) (by decide +kernel)) (fun _ => ?_)
            refine lv_goto (tgt := 126) hx hb dX8_lays_93 (by decide) ?_
            refine lv_iinc (v := (nI (k72 + 1))) (lv' := [(4, .int (nI (k72 + 1))), (0, .ref o), (1, .int (nI 6)), (2, .int (nI u)), (3, .int sum)]) hx hb dX8_lays_126 hl (k := 0) rfl (nI_1 _) (by decide) rfl (fun ls hl => ?_)
            refine lv_goto (tgt := 72) hx hb dX8_lays_129 (by decide) ?_
            exact ih_72 (k72 + 1) bv f72 gb72 (by omega) (by assumption) (by omega) _ _ _ V (lv_sub hl [0, 1, 2, 3, 4] rfl)
          · have V : gW D T A s [(o, .inr (8, [.int w0, .ref g1, .ref g2, .ref g3, .ref g4, .int (nI tp), .int w6, .int w7, .int w8, .int w9, .int w10, .int w11, .int w12, .int w13, .int w14, .ref g15, .int w16, .ref g17, .int w18, .int w19, .ref g20, .int w21, .ref g22, .ref g23, .ref g24, .int w25, .int w26, .int w27, .ref g28, .ref g29, .int bv, .ref g31, .ref g32, .ref g33])), (g1, .inl (T 0, 282, .inl fa)), (g28, .inl (T 0, 7, .inl f72)), (g29, .inl (T 0, 7, .inl gb72))] H locs := V _ [] rfl rfl rfl (by decide +kernel) rfl
            show W p l e _ s m args below meth c H locs _ _ _ (F0 m 90 ls [.int (nI 0)])
            refine lv_if_eq (tgt := 96) hx hb dX8_lays_90 (by decide) (fun _ => ?_) (fun c => absurd (show (nI 0) = 0 by decide +kernel) c)
            refine lv_aload_n hx hb dX8_lays_96 rfl (lv_at hl 1 rfl) ?_
            refine g_get hC V (ci := 8) uwX8 0 rfl rfl 28 (by decide) w_940 rfl rfl dX8_lays_97 ?_
            refine lv_iload_n hx hb dX8_lays_100 rfl (lv_at hl 2 rfl) ?_
            refine lv_iload hx hb dX8_lays_101 (lv_at hl 0 rfl) ?_
            refine g_iast hC V 2 rfl (vp_in_nI (by decide) (by decide)) (f' := (upd f72 6 (nI k72))) (by rw [nI_clamp (by decide)]) (ws' := [(o, .inr (8, [.int w0, .ref g1, .ref g2, .ref g3, .ref g4, .int (nI tp), .int w6, .int w7, .int w8, .int w9, .int w10, .int w11, .int w12, .int w13, .int w14, .ref g15, .int w16, .ref g17, .int w18, .int w19, .ref g20, .int w21, .ref g22, .ref g23, .ref g24, .int w25, .int w26, .int w27, .ref g28, .ref g29, .int bv, .ref g31, .ref g32, .ref g33])), (g1, .inl (T 0, 282, .inl fa)), (g28, .inl (T 0, 7, .inl (upd f72 6 (nI k72)))), (g29, .inl (T 0, 7, .inl gb72))]) rfl dX8_lays_103 (fun H locs V => ?_)
            refine lv_aload_n hx hb dX8_lays_104 rfl (lv_at hl 1 rfl) ?_
            refine lv_iload_n hx hb dX8_lays_105 rfl (lv_at hl 2 rfl) ?_
            refine lv_iconst (v := (nI 1)) hx hb dX8_lays_106 (by decide +kernel) ?_
            refine lv_iadd hx hb dX8_lays_107 ?_
            refine g_vi (y := (nI 7)) (by decide +kernel) ?_
            refine lv_iload_n hx hb dX8_lays_108 rfl (lv_at hl 3 rfl) ?_
            refine lv_iconst (v := (nI 1)) hx hb dX8_lays_109 (by decide +kernel) ?_
            refine lv_iload hx hb dX8_lays_110 (lv_at hl 0 rfl) ?_
            refine lv_ishl hx hb dX8_lays_112 ?_
            refine g_vi (y := (nI (2 ^ k72))) (shl_pow (by omega)) ?_
            refine lv_ior hx hb dX8_lays_113 ?_
            refine g_vi (y := nI (u ||| (2 ^ k72))) (or7 (by omega) (by omega)) ?_
            refine lv_iload_n hx hb dX8_lays_114 rfl (lv_at hl 4 rfl) ?_
            refine lv_aload_n hx hb dX8_lays_115 rfl (lv_at hl 1 rfl) ?_
            refine lv_iload_n hx hb dX8_lays_116 rfl (lv_at hl 2 rfl) ?_
            refine lv_iload hx hb dX8_lays_117 (lv_at hl 0 rfl) ?_
            refine g_callVU (nA := 2) hC V hl.1 (m_offBy l D T o 6 k72 w0 g1 g2 g3 g4 tp w6 w7 w8 w9 w10 w11 w12 w13 w14 g15 w16 g17 w18 w19 g20 w21 g22 g23 g24 w25 w26 w27 g28 g29 bv g31 g32 g33 fa (by first | assumption | omega) (by first | assumption | omega)) w_1328 w_1330 w_s77 w_9 w_1331 (by decide +kernel) rfl ⟨(Nat.le_of_ble_eq_true rfl), (Nat.le_of_ble_eq_true rfl)⟩ 0 (ci := 8) rfl rfl [0, 1] rfl rfl (Nat.le_of_ble_eq_true rfl) dX8_lays_119 ⟨(Nat.le_of_ble_eq_true rfl), (Nat.le_of_ble_eq_true rfl)⟩ rfl (fun r w1 H locs hQ V => ?_)
            obtain ⟨z_6, rfl, rfl⟩ := hQ
            have V : gW D T A s [(o, .inr (8, [.int w0, .ref g1, .ref g2, .ref g3, .ref g4, .int (nI tp), .int w6, .int w7, .int w8, .int w9, .int w10, .int w11, .int w12, .int w13, .int w14, .ref g15, .int w16, .ref g17, .int w18, .int w19, .ref g20, .int w21, .ref g22, .ref g23, .ref g24, .int w25, .int w26, .int w27, .ref g28, .ref g29, .int bv, .ref g31, .ref g32, .ref g33])), (g1, .inl (T 0, 282, .inl fa)), (g28, .inl (T 0, 7, .inl (upd f72 6 (nI k72)))), (g29, .inl (T 0, 7, .inl gb72))] H locs := V _ [0, 0] rfl rfl rfl (by decide +kernel) rfl
            show W p l e _ s m args below meth c H locs _ _ _ (F0 m 122 ls [.int z_6, .int sum, .int (nI (u ||| (2 ^ k72))), .int (nI 7), .ref o])
            refine lv_iadd hx hb dX8_lays_122 ?_
            refine g_callV (wr := []) (nA := 3) hC V hl.1 (m_lays7 l D T n o (u ||| (2 ^ k72)) (sum + z_6) w0 g1 g2 g3 g4 tp w6 w7 w8 w9 w10 w11 w12 w13 w14 g15 w16 g17 w18 w19 g20 w21 g22 g23 g24 w25 w26 w27 g28 g29 bv g31 g32 g33 fa (upd f72 6 (nI k72)) gb72 h_a (li_put (li_ext h_li hpre) (by omega) (ub_free (ub_ext h_ub hpre) (by assumption))) (lt_put h_lt hpre (by omega) h_7) (ub_put (ub_ext h_ub hpre) (by omega)) h_1 h_7 (by omega)) w_1320 w_1322 w_s75 w_9 w_1323 (by decide +kernel) rfl ⟨(Nat.le_of_ble_eq_true rfl), (Nat.le_of_ble_eq_true rfl)⟩ 0 (ci := 8) rfl rfl [0, 1, 2, 3] [] rfl rfl rfl rfl (by decide) (Nat.le_of_ble_eq_true rfl) dX8_lays_123 ⟨(Nat.le_of_ble_eq_true rfl), (Nat.le_of_ble_eq_true rfl)⟩ rfl (fun r w1 H locs hQ V => ?_)
            obtain ⟨bs_7, go_8, gp_9, rfl, rfl, f_10⟩ := hQ
            have V : gW D T A s [(o, .inr (8, [.int w0, .ref g1, .ref g2, .ref g3, .ref g4, .int (nI tp), .int w6, .int w7, .int w8, .int w9, .int w10, .int w11, .int w12, .int w13, .int w14, .ref g15, .int w16, .ref g17, .int w18, .int w19, .ref g20, .int w21, .ref g22, .ref g23, .ref g24, .int w25, .int w26, .int w27, .ref g28, .ref g29, .int bs_7, .ref g31, .ref g32, .ref g33])), (g1, .inl (T 0, 282, .inl fa)), (g28, .inl (T 0, 7, .inl go_8)), (g29, .inl (T 0, 7, .inl gp_9))] H locs := V
            show W p l e _ s m args below meth c H locs _ _ _ (F0 m 126 ls [])
            have hpre2 : ∀ j, j < 6 → go_8 j = fo j := fun j hj => (f_10 j (by omega)).trans ((up_other (by omega)).trans (hpre j hj))
            refine lv_iinc (v := (nI (k72 + 1))) (lv' := [(4, .int (nI (k72 + 1))), (0, .ref o), (1, .int (nI 6)), (2, .int (nI u)), (3, .int sum)]) hx hb dX8_lays_126 hl (k := 0) rfl (nI_1 _) (by decide) rfl (fun ls hl => ?_)
            refine lv_goto (tgt := 72) hx hb dX8_lays_129 (by decide) ?_
            exact ih_72 (k72 + 1) bs_7 go_8 gp_9 (by omega) (by assumption) (by omega) _ _ _ V (lv_sub hl [0, 1, 2, 3, 4] rfl)
    exact L_2 _ 0 w30 fo fp (by omega) (fun _ _ => rfl) (Nat.lt_succ_self _) _ _ _ V (lv_sub hl [0, 1, 2, 3, 4] rfl)
  · skip
    have c_1 := b_eq (by omega) (by omega) c_1
    have hkn : 6 = n := c_1
    refine lv_aload_n hx hb dX8_lays_10 rfl (lv_at hl 0 rfl) ?_
    refine g_callVU (nA := 0) hC V hl.1 (m_isOneRing l D T n o w0 g1 g2 g3 g4 tp w6 w7 w8 w9 w10 w11 w12 w13 w14 g15 w16 g17 w18 w19 g20 w21 g22 g23 g24 w25 w26 w27 g28 g29 w30 g31 g32 g33 fa fo h_a (lf_of h_li h_lt (by omega)) h_1 h_7) w_1324 w_1326 w_s76 w_9 w_1327 (by decide +kernel) rfl ⟨(Nat.le_of_ble_eq_true rfl), (Nat.le_of_ble_eq_true rfl)⟩ 0 (ci := 8) rfl rfl [0, 1, 2] rfl rfl (Nat.le_of_ble_eq_true rfl) dX8_lays_11 ⟨(Nat.le_of_ble_eq_true rfl), (Nat.le_of_ble_eq_true rfl)⟩ rfl (fun r w1 H locs hQ V => ?_)
    rcases hQ with ⟨rfl, rfl⟩ | ⟨rfl, rfl⟩
    · have V : gW D T A s [(o, .inr (8, [.int w0, .ref g1, .ref g2, .ref g3, .ref g4, .int (nI tp), .int w6, .int w7, .int w8, .int w9, .int w10, .int w11, .int w12, .int w13, .int w14, .ref g15, .int w16, .ref g17, .int w18, .int w19, .ref g20, .int w21, .ref g22, .ref g23, .ref g24, .int w25, .int w26, .int w27, .ref g28, .ref g29, .int w30, .ref g31, .ref g32, .ref g33])), (g1, .inl (T 0, 282, .inl fa)), (g28, .inl (T 0, 7, .inl fo)), (g29, .inl (T 0, 7, .inl fp))] H locs := V _ [0, 0, 0] rfl rfl rfl (by decide +kernel) rfl
      show W p l e _ s m args below meth c H locs _ _ _ (F0 m 14 ls [.int (nI 1)])
      refine lv_if_eq (tgt := 33) hx hb dX8_lays_14 (by decide) (fun c => absurd (show (nI 1) = 0 from c) (by decide +kernel)) (fun _ => ?_)
      refine lv_aload_n hx hb dX8_lays_17 rfl (lv_at hl 0 rfl) ?_
      refine g_get hC V (ci := 8) uwX8 0 rfl rfl 30 (by decide) w_942 rfl rfl dX8_lays_18 ?_
      refine lv_iconst (v := (-1)) hx hb dX8_lays_21 (by decide +kernel) ?_
      refine lv_icmp_eq (tgt := 34) hx hb dX8_lays_22 (by decide) (fun c_11 => ?_) (fun c_11 => ?_)
      · skip
        refine lv_aload_n hx hb dX8_lays_34 rfl (lv_at hl 0 rfl) ?_
        refine lv_iload_n hx hb dX8_lays_35 rfl (lv_at hl 3 rfl) ?_
        refine g_put hC V (ci := 8) uwX8 tyX8 tyX8_ok nmX8 0 rfl rfl 30 (by decide) w_942 rfl rfl rfl rfl (Nat.le_of_ble_eq_true rfl) (ws' := [(o, .inr (8, [.int w0, .ref g1, .ref g2, .ref g3, .ref g4, .int (nI tp), .int w6, .int w7, .int w8, .int w9, .int w10, .int w11, .int w12, .int w13, .int w14, .ref g15, .int w16, .ref g17, .int w18, .int w19, .ref g20, .int w21, .ref g22, .ref g23, .ref g24, .int w25, .int w26, .int w27, .ref g28, .ref g29, .int sum, .ref g31, .ref g32, .ref g33])), (g1, .inl (T 0, 282, .inl fa)), (g28, .inl (T 0, 7, .inl fo)), (g29, .inl (T 0, 7, .inl fp))]) rfl dX8_lays_36 (fun H locs V => ?_)
        refine lv_iconst (v := (nI 0)) hx hb dX8_lays_39 (by decide +kernel) ?_
        refine lv_istore (lv' := [(4, .int (nI 0)), (0, .ref o), (1, .int (nI 6)), (2, .int (nI u)), (3, .int sum)]) hx hb dX8_lays_40 hl (by decide) rfl (fun ls hl => ?_)
        have L_12 : ∀ (fu : Nat) (k42 : Nat) (gb42 : Nat → Int32), k42 ≤ 6 → 6 - k42 < fu → ∀ (H : Heap) (locs : List Loc) (ls : Array Slot), gW D T A s [(o, .inr (8, [.int w0, .ref g1, .ref g2, .ref g3, .ref g4, .int (nI tp), .int w6, .int w7, .int w8, .int w9, .int w10, .int w11, .int w12, .int w13, .int w14, .ref g15, .int w16, .ref g17, .int w18, .int w19, .ref g20, .int w21, .ref g22, .ref g23, .ref g24, .int w25, .int w26, .int w27, .ref g28, .ref g29, .int sum, .ref g31, .ref g32, .ref g33])), (g1, .inl (T 0, 282, .inl fa)), (g28, .inl (T 0, 7, .inl fo)), (g29, .inl (T 0, 7, .inl gb42))] H locs → lv_has ls 5 [(4, .int (nI k42)), (0, .ref o), (1, .int (nI 6)), (2, .int (nI u)), (3, .int sum)] → W p l e (rmD 3 0 0) s m args below meth c H locs 0 0 (MQ below (gQ D A (q_m_lays6 T n o u sum w0 g1 g2 g3 g4 tp w6 w7 w8 w9 w10 w11 w12 w13 w14 g15 w16 g17 w18 w19 g20 w21 g22 g23 g24 w25 w26 w27 g28 g29 w30 g31 g32 g33 fa fo fp)) args s 0 0 A) (F0 m 42 ls []) := by
          intro fu_42
          induction fu_42 with
          | zero => intro k42 gb42 hk42 hmu; exact absurd hmu (Nat.not_lt_zero _)
          | succ fu_42 ih_42 =>
            intro k42 gb42 hk42 hmu_42 H locs ls V hl
            refine lv_iload hx hb dX8_lays_42 (lv_at hl 0 rfl) ?_
            refine lv_iload_n hx hb dX8_lays_44 rfl (lv_at hl 2 rfl) ?_
            refine lv_icmp_ge (tgt := 68) hx hb dX8_lays_45 (by decide) (fun c_13 => ?_) (fun c_13 => ?_)
            · skip
              have c_13 := b_le (by omega) (by omega) c_13
              exact g_vret (Qr := (q_m_lays6 T n o u sum w0 g1 g2 g3 g4 tp w6 w7 w8 w9 w10 w11 w12 w13 w14 g15 w16 g17 w18 w19 g20 w21 g22 g23 g24 w25 w26 w27 g28 g29 w30 g31 g32 g33 fa fo fp)) hC V ⟨(Nat.le_of_ble_eq_true rfl), (Nat.le_of_ble_eq_true rfl)⟩ ⟨sum, fo, gb42, rfl, rfl, (fun _ _ => rfl)⟩ dX8_lays_68
            · skip
              have c_13 := b_nle (by omega) (by omega) c_13
              refine lv_aload_n hx hb dX8_lays_48 rfl (lv_at hl 1 rfl) ?_
              refine g_get hC V (ci := 8) uwX8 0 rfl rfl 29 (by decide) w_941 rfl rfl dX8_lays_49 ?_
              refine lv_iload hx hb dX8_lays_52 (lv_at hl 0 rfl) ?_
              refine lv_aload_n hx hb dX8_lays_54 rfl (lv_at hl 1 rfl) ?_
              refine g_get hC V (ci := 8) uwX8 0 rfl rfl 28 (by decide) w_940 rfl rfl dX8_lays_55 ?_
              refine lv_iload hx hb dX8_lays_58 (lv_at hl 0 rfl) ?_
              refine g_iald hC V 2 rfl (vp_in_nI (by omega) (by omega)) (v := (fo k42)) (congrArg _ (nI_clamp (by omega))) dX8_lays_60 ?_
              refine g_iast hC V 3 rfl (vp_in_nI (by omega) (by omega)) (f' := (upd gb42 k42 (fo k42))) (by rw [nI_clamp (by omega)]) (ws' := [(o, .inr (8, [.int w0, .ref g1, .ref g2, .ref g3, .ref g4, .int (nI tp), .int w6, .int w7, .int w8, .int w9, .int w10, .int w11, .int w12, .int w13, .int w14, .ref g15, .int w16, .ref g17, .int w18, .int w19, .ref g20, .int w21, .ref g22, .ref g23, .ref g24, .int w25, .int w26, .int w27, .ref g28, .ref g29, .int sum, .ref g31, .ref g32, .ref g33])), (g1, .inl (T 0, 282, .inl fa)), (g28, .inl (T 0, 7, .inl fo)), (g29, .inl (T 0, 7, .inl (upd gb42 k42 (fo k42))))]) rfl dX8_lays_61 (fun H locs V => ?_)
              refine lv_iinc (v := (nI (k42 + 1))) (lv' := [(4, .int (nI (k42 + 1))), (0, .ref o), (1, .int (nI 6)), (2, .int (nI u)), (3, .int sum)]) hx hb dX8_lays_62 hl (k := 0) rfl (nI_1 _) (by decide) rfl (fun ls hl => ?_)
              refine lv_goto (tgt := 42) hx hb dX8_lays_65 (by decide) ?_
              exact ih_42 (k42 + 1) (upd gb42 k42 (fo k42)) (by omega) (by omega) _ _ _ V (lv_sub hl [0, 1, 2, 3, 4] rfl)
        exact L_12 _ 0 fp (by omega) (Nat.lt_succ_self _) _ _ _ V (lv_sub hl [0, 1, 2, 3, 4] rfl)
      · skip
        refine lv_iload_n hx hb dX8_lays_25 rfl (lv_at hl 3 rfl) ?_
        refine lv_aload_n hx hb dX8_lays_26 rfl (lv_at hl 0 rfl) ?_
        refine g_get hC V (ci := 8) uwX8 0 rfl rfl 30 (by decide) w_942 rfl rfl dX8_lays_27 ?_
        refine lv_icmp_lt (tgt := 34) hx hb dX8_lays_30 (by decide) (fun c_14 => ?_) (fun c_14 => ?_)
        · skip
          refine lv_aload_n hx hb dX8_lays_34 rfl (lv_at hl 0 rfl) ?_
          refine lv_iload_n hx hb dX8_lays_35 rfl (lv_at hl 3 rfl) ?_
          refine g_put hC V (ci := 8) uwX8 tyX8 tyX8_ok nmX8 0 rfl rfl 30 (by decide) w_942 rfl rfl rfl rfl (Nat.le_of_ble_eq_true rfl) (ws' := [(o, .inr (8, [.int w0, .ref g1, .ref g2, .ref g3, .ref g4, .int (nI tp), .int w6, .int w7, .int w8, .int w9, .int w10, .int w11, .int w12, .int w13, .int w14, .ref g15, .int w16, .ref g17, .int w18, .int w19, .ref g20, .int w21, .ref g22, .ref g23, .ref g24, .int w25, .int w26, .int w27, .ref g28, .ref g29, .int sum, .ref g31, .ref g32, .ref g33])), (g1, .inl (T 0, 282, .inl fa)), (g28, .inl (T 0, 7, .inl fo)), (g29, .inl (T 0, 7, .inl fp))]) rfl dX8_lays_36 (fun H locs V => ?_)
          refine lv_iconst (v := (nI 0)) hx hb dX8_lays_39 (by decide +kernel) ?_
          refine lv_istore (lv' := [(4, .int (nI 0)), (0, .ref o), (1, .int (nI 6)), (2, .int (nI u)), (3, .int sum)]) hx hb dX8_lays_40 hl (by decide) rfl (fun ls hl => ?_)
          have L_15 : ∀ (fu : Nat) (k42 : Nat) (gb42 : Nat → Int32), k42 ≤ 6 → 6 - k42 < fu → ∀ (H : Heap) (locs : List Loc) (ls : Array Slot), gW D T A s [(o, .inr (8, [.int w0, .ref g1, .ref g2, .ref g3, .ref g4, .int (nI tp), .int w6, .int w7, .int w8, .int w9, .int w10, .int w11, .int w12, .int w13, .int w14, .ref g15, .int w16, .ref g17, .int w18, .int w19, .ref g20, .int w21, .ref g22, .ref g23, .ref g24, .int w25, .int w26, .int w27, .ref g28, .ref g29, .int sum, .ref g31, .ref g32, .ref g33])), (g1, .inl (T 0, 282, .inl fa)), (g28, .inl (T 0, 7, .inl fo)), (g29, .inl (T 0, 7, .inl gb42))] H locs → lv_has ls 5 [(4, .int (nI k42)), (0, .ref o), (1, .int (nI 6)), (2, .int (nI u)), (3, .int sum)] → W p l e (rmD 3 0 0) s m args below meth c H locs 0 0 (MQ below (gQ D A (q_m_lays6 T n o u sum w0 g1 g2 g3 g4 tp w6 w7 w8 w9 w10 w11 w12 w13 w14 g15 w16 g17 w18 w19 g20 w21 g22 g23 g24 w25 w26 w27 g28 g29 w30 g31 g32 g33 fa fo fp)) args s 0 0 A) (F0 m 42 ls []) := by
            intro fu_42
            induction fu_42 with
            | zero => intro k42 gb42 hk42 hmu; exact absurd hmu (Nat.not_lt_zero _)
            | succ fu_42 ih_42 =>
              intro k42 gb42 hk42 hmu_42 H locs ls V hl
              refine lv_iload hx hb dX8_lays_42 (lv_at hl 0 rfl) ?_
              refine lv_iload_n hx hb dX8_lays_44 rfl (lv_at hl 2 rfl) ?_
              refine lv_icmp_ge (tgt := 68) hx hb dX8_lays_45 (by decide) (fun c_16 => ?_) (fun c_16 => ?_)
              · skip
                have c_16 := b_le (by omega) (by omega) c_16
                exact g_vret (Qr := (q_m_lays6 T n o u sum w0 g1 g2 g3 g4 tp w6 w7 w8 w9 w10 w11 w12 w13 w14 g15 w16 g17 w18 w19 g20 w21 g22 g23 g24 w25 w26 w27 g28 g29 w30 g31 g32 g33 fa fo fp)) hC V ⟨(Nat.le_of_ble_eq_true rfl), (Nat.le_of_ble_eq_true rfl)⟩ ⟨sum, fo, gb42, rfl, rfl, (fun _ _ => rfl)⟩ dX8_lays_68
              · skip
                have c_16 := b_nle (by omega) (by omega) c_16
                refine lv_aload_n hx hb dX8_lays_48 rfl (lv_at hl 1 rfl) ?_
                refine g_get hC V (ci := 8) uwX8 0 rfl rfl 29 (by decide) w_941 rfl rfl dX8_lays_49 ?_
                refine lv_iload hx hb dX8_lays_52 (lv_at hl 0 rfl) ?_
                refine lv_aload_n hx hb dX8_lays_54 rfl (lv_at hl 1 rfl) ?_
                refine g_get hC V (ci := 8) uwX8 0 rfl rfl 28 (by decide) w_940 rfl rfl dX8_lays_55 ?_
                refine lv_iload hx hb dX8_lays_58 (lv_at hl 0 rfl) ?_
                refine g_iald hC V 2 rfl (vp_in_nI (by omega) (by omega)) (v := (fo k42)) (congrArg _ (nI_clamp (by omega))) dX8_lays_60 ?_
                refine g_iast hC V 3 rfl (vp_in_nI (by omega) (by omega)) (f' := (upd gb42 k42 (fo k42))) (by rw [nI_clamp (by omega)]) (ws' := [(o, .inr (8, [.int w0, .ref g1, .ref g2, .ref g3, .ref g4, .int (nI tp), .int w6, .int w7, .int w8, .int w9, .int w10, .int w11, .int w12, .int w13, .int w14, .ref g15, .int w16, .ref g17, .int w18, .int w19, .ref g20, .int w21, .ref g22, .ref g23, .ref g24, .int w25, .int w26, .int w27, .ref g28, .ref g29, .int sum, .ref g31, .ref g32, .ref g33])), (g1, .inl (T 0, 282, .inl fa)), (g28, .inl (T 0, 7, .inl fo)), (g29, .inl (T 0, 7, .inl (upd gb42 k42 (fo k42))))]) rfl dX8_lays_61 (fun H locs V => ?_)
                refine lv_iinc (v := (nI (k42 + 1))) (lv' := [(4, .int (nI (k42 + 1))), (0, .ref o), (1, .int (nI 6)), (2, .int (nI u)), (3, .int sum)]) hx hb dX8_lays_62 hl (k := 0) rfl (nI_1 _) (by decide) rfl (fun ls hl => ?_)
                refine lv_goto (tgt := 42) hx hb dX8_lays_65 (by decide) ?_
                exact ih_42 (k42 + 1) (upd gb42 k42 (fo k42)) (by omega) (by omega) _ _ _ V (lv_sub hl [0, 1, 2, 3, 4] rfl)
          exact L_15 _ 0 fp (by omega) (Nat.lt_succ_self _) _ _ _ V (lv_sub hl [0, 1, 2, 3, 4] rfl)
        · skip
          exact g_vret (Qr := (q_m_lays6 T n o u sum w0 g1 g2 g3 g4 tp w6 w7 w8 w9 w10 w11 w12 w13 w14 g15 w16 g17 w18 w19 g20 w21 g22 g23 g24 w25 w26 w27 g28 g29 w30 g31 g32 g33 fa fo fp)) hC V ⟨(Nat.le_of_ble_eq_true rfl), (Nat.le_of_ble_eq_true rfl)⟩ ⟨w30, fo, fp, rfl, rfl, (fun _ _ => rfl)⟩ dX8_lays_33
    · have V : gW D T A s [(o, .inr (8, [.int w0, .ref g1, .ref g2, .ref g3, .ref g4, .int (nI tp), .int w6, .int w7, .int w8, .int w9, .int w10, .int w11, .int w12, .int w13, .int w14, .ref g15, .int w16, .ref g17, .int w18, .int w19, .ref g20, .int w21, .ref g22, .ref g23, .ref g24, .int w25, .int w26, .int w27, .ref g28, .ref g29, .int w30, .ref g31, .ref g32, .ref g33])), (g1, .inl (T 0, 282, .inl fa)), (g28, .inl (T 0, 7, .inl fo)), (g29, .inl (T 0, 7, .inl fp))] H locs := V _ [0, 0, 0] rfl rfl rfl (by decide +kernel) rfl
      show W p l e _ s m args below meth c H locs _ _ _ (F0 m 14 ls [.int (nI 0)])
      refine lv_if_eq (tgt := 33) hx hb dX8_lays_14 (by decide) (fun _ => ?_) (fun c => absurd (show (nI 0) = 0 by decide +kernel) c)
      exact g_vret (Qr := (q_m_lays6 T n o u sum w0 g1 g2 g3 g4 tp w6 w7 w8 w9 w10 w11 w12 w13 w14 g15 w16 g17 w18 w19 g20 w21 g22 g23 g24 w25 w26 w27 g28 g29 w30 g31 g32 g33 fa fo fp)) hC V ⟨(Nat.le_of_ble_eq_true rfl), (Nat.le_of_ble_eq_true rfl)⟩ ⟨w30, fo, fp, rfl, rfl, (fun _ _ => rfl)⟩ dX8_lays_33

def q_m_lays5 (T : Nat → ClassId) (n : Nat) (o : Nat) (u : Nat) (sum : Int32) (w0 : Int32) (g1 : Nat) (g2 : Nat) (g3 : Nat) (g4 : Nat) (tp : Nat) (w6 : Int32) (w7 : Int32) (w8 : Int32) (w9 : Int32) (w10 : Int32) (w11 : Int32) (w12 : Int32) (w13 : Int32) (w14 : Int32) (g15 : Nat) (w16 : Int32) (g17 : Nat) (w18 : Int32) (w19 : Int32) (g20 : Nat) (w21 : Int32) (g22 : Nat) (g23 : Nat) (g24 : Nat) (w25 : Int32) (w26 : Int32) (w27 : Int32) (g28 : Nat) (g29 : Nat) (w30 : Int32) (g31 : Nat) (g32 : Nat) (g33 : Nat) (fa : Nat → Int32) (fo : Nat → Int32) (fp : Nat → Int32) : Option Value → va_W → Prop := fun rr ww => (∃ (bs : Int32) (go : Nat → Int32) (gp : Nat → Int32), rr = none ∧ ww = [(o, .inr (8, [.int w0, .ref g1, .ref g2, .ref g3, .ref g4, .int (nI tp), .int w6, .int w7, .int w8, .int w9, .int w10, .int w11, .int w12, .int w13, .int w14, .ref g15, .int w16, .ref g17, .int w18, .int w19, .ref g20, .int w21, .ref g22, .ref g23, .ref g24, .int w25, .int w26, .int w27, .ref g28, .ref g29, .int bs, .ref g31, .ref g32, .ref g33])), (g1, .inl (T 0, 282, .inl fa)), (g28, .inl (T 0, 7, .inl go)), (g29, .inl (T 0, 7, .inl gp))] ∧ (∀ j, j < 5 → go j = fo j))
set_option maxHeartbeats 4000000 in
set_option maxRecDepth 100000 in
theorem m_lays5 (l : Launch) (D : va_G) (T : Nat → ClassId) (n : Nat) (o : Nat) (u : Nat) (sum : Int32) (w0 : Int32) (g1 : Nat) (g2 : Nat) (g3 : Nat) (g4 : Nat) (tp : Nat) (w6 : Int32) (w7 : Int32) (w8 : Int32) (w9 : Int32) (w10 : Int32) (w11 : Int32) (w12 : Int32) (w13 : Int32) (w14 : Int32) (g15 : Nat) (w16 : Int32) (g17 : Nat) (w18 : Int32) (w19 : Int32) (g20 : Nat) (w21 : Int32) (g22 : Nat) (g23 : Nat) (g24 : Nat) (w25 : Int32) (w26 : Int32) (w27 : Int32) (g28 : Nat) (g29 : Nat) (w30 : Int32) (g31 : Nat) (g32 : Nat) (g33 : Nat) (fa : Nat → Int32) (fo : Nat → Int32) (fp : Nat → Int32) (h_a : MI n fa) (h_li : LI 5 fo) (h_lt : ∀ j, j < 5 → toF fo j < n) (h_ub : UB 5 u fo) (h_1 : 1 ≤ n) (h_7 : n ≤ 7) (h_kn : 5 ≤ n) : Ct l yX8_lays cX8_lays 5 none 4 0 0 D T [.ref o, .int (nI 5), .int (nI u), .int sum] [(o, .inr (8, [.int w0, .ref g1, .ref g2, .ref g3, .ref g4, .int (nI tp), .int w6, .int w7, .int w8, .int w9, .int w10, .int w11, .int w12, .int w13, .int w14, .ref g15, .int w16, .ref g17, .int w18, .int w19, .ref g20, .int w21, .ref g22, .ref g23, .ref g24, .int w25, .int w26, .int w27, .ref g28, .ref g29, .int w30, .ref g31, .ref g32, .ref g33])), (g1, .inl (T 0, 282, .inl fa)), (g28, .inl (T 0, 7, .inl fo)), (g29, .inl (T 0, 7, .inl fp))] (q_m_lays5 T n o u sum w0 g1 g2 g3 g4 tp w6 w7 w8 w9 w10 w11 w12 w13 w14 g15 w16 g17 w18 w19 g20 w21 g22 g23 g24 w25 w26 w27 g28 g29 w30 g31 g32 g33 fa fo fp) := by
  refine Ct.of (cc := cX8_lays) (maxL := 5) (ret := none) (by decide) (Nat.le_of_ble_eq_true rfl) ?_
  intro p e s m args below meth c A ls hC hnm V hl
  obtain ⟨hx, hb, hr, hml, hown, hts, hlocks⟩ := id hC
  generalize hH : s.heap = H at V ⊢
  clear hH
  have hl : lv_has ls 5 [(0, .ref o), (1, .int (nI 5)), (2, .int (nI u)), (3, .int sum)] := hl
  generalize hlo : ([] : List Loc) = locs at V ⊢
  clear hlo
  have ms0 := ms_rf h_a
  have hn10 := h_a.1
  have hu := h_ub.1
  refine lv_iload_n hx hb dX8_lays_0 rfl (lv_at hl 1 rfl) ?_
  refine lv_aload_n hx hb dX8_lays_1 rfl (lv_at hl 0 rfl) ?_
  refine g_get hC V (ci := 8) uwX8 0 rfl rfl 1 (by decide) w_913 rfl rfl dX8_lays_2 ?_
  refine lv_iconst (v := (nI 0)) hx hb dX8_lays_5 (by decide +kernel) ?_
  refine g_iald hC V 1 rfl (vp_in_nI (by decide) (by decide)) (v := (nI n)) (by rw [nI_clamp (by decide)]; first | rfl | exact h_a.2.1) dX8_lays_6 ?_
  refine lv_icmp_ne (tgt := 69) hx hb dX8_lays_7 (by decide) (fun c_1 => ?_) (fun c_1 => ?_)
  · skip
    have c_1 := b_ne (by omega) (by omega) c_1
    refine lv_iconst (v := (nI 0)) hx hb dX8_lays_69 (by decide +kernel) ?_
    refine lv_istore (lv' := [(4, .int (nI 0)), (0, .ref o), (1, .int (nI 5)), (2, .int (nI u)), (3, .int sum)]) hx hb dX8_lays_70 hl (by decide) rfl (fun ls hl => ?_)
    have L_2 : ∀ (fu : Nat) (k72 : Nat) (bv : Int32) (f72 : Nat → Int32) (gb72 : Nat → Int32), k72 ≤ n → (∀ j, j < 5 → f72 j = fo j) → n - k72 < fu → ∀ (H : Heap) (locs : List Loc) (ls : Array Slot), gW D T A s [(o, .inr (8, [.int w0, .ref g1, .ref g2, .ref g3, .ref g4, .int (nI tp), .int w6, .int w7, .int w8, .int w9, .int w10, .int w11, .int w12, .int w13, .int w14, .ref g15, .int w16, .ref g17, .int w18, .int w19, .ref g20, .int w21, .ref g22, .ref g23, .ref g24, .int w25, .int w26, .int w27, .ref g28, .ref g29, .int bv, .ref g31, .ref g32, .ref g33])), (g1, .inl (T 0, 282, .inl fa)), (g28, .inl (T 0, 7, .inl f72)), (g29, .inl (T 0, 7, .inl gb72))] H locs → lv_has ls 5 [(4, .int (nI k72)), (0, .ref o), (1, .int (nI 5)), (2, .int (nI u)), (3, .int sum)] → W p l e (rmD 4 0 0) s m args below meth c H locs 0 0 (MQ below (gQ D A (q_m_lays5 T n o u sum w0 g1 g2 g3 g4 tp w6 w7 w8 w9 w10 w11 w12 w13 w14 g15 w16 g17 w18 w19 g20 w21 g22 g23 g24 w25 w26 w27 g28 g29 w30 g31 g32 g33 fa fo fp)) args s 0 0 A) (F0 m 72 ls []) := by
      intro fu_72
      induction fu_72 with
      | zero => intro k72 bv f72 gb72 hk72 hpre hmu; exact absurd hmu (Nat.not_lt_zero _)
      | succ fu_72 ih_72 =>
        intro k72 bv f72 gb72 hk72 hpre hmu_72 H locs ls V hl
        refine lv_iload hx hb dX8_lays_72 (lv_at hl 0 rfl) ?_
        refine lv_aload_n hx hb dX8_lays_74 rfl (lv_at hl 1 rfl) ?_
        refine g_get hC V (ci := 8) uwX8 0 rfl rfl 1 (by decide) w_913 rfl rfl dX8_lays_75 ?_
        refine lv_iconst (v := (nI 0)) hx hb dX8_lays_78 (by decide +kernel) ?_
        refine g_iald hC V 1 rfl (vp_in_nI (by decide) (by decide)) (v := (nI n)) (by rw [nI_clamp (by decide)]; first | rfl | exact h_a.2.1) dX8_lays_79 ?_
        refine lv_icmp_ge (tgt := 132) hx hb dX8_lays_80 (by decide) (fun c_3 => ?_) (fun c_3 => ?_)
        · skip
          have c_3 := b_le (by omega) (by omega) c_3
          exact g_vret (Qr := (q_m_lays5 T n o u sum w0 g1 g2 g3 g4 tp w6 w7 w8 w9 w10 w11 w12 w13 w14 g15 w16 g17 w18 w19 g20 w21 g22 g23 g24 w25 w26 w27 g28 g29 w30 g31 g32 g33 fa fo fp)) hC V ⟨(Nat.le_of_ble_eq_true rfl), (Nat.le_of_ble_eq_true rfl)⟩ ⟨bv, f72, gb72, rfl, rfl, hpre⟩ dX8_lays_132
        · skip
          have c_3 := b_nle (by omega) (by omega) c_3
          refine lv_iload_n hx hb dX8_lays_83 rfl (lv_at hl 3 rfl) ?_
          refine lv_i2l (v := (nI u).toInt64) hx hb dX8_lays_84 rfl ?_
          refine lv_iload hx hb dX8_lays_85 (lv_at hl 0 rfl) ?_
          refine g_callSU (nA := 2) hC V hl.1 (m_isIn7 l D T u k72 h_ub.1 (by omega)) w_1130 w_1131 w_9 w_1132 (by decide +kernel) rfl ⟨(Nat.le_of_ble_eq_true rfl), (Nat.le_of_ble_eq_true rfl)⟩ [] rfl rfl (Nat.le_of_ble_eq_true rfl) dX8_lays_87 ⟨(Nat.le_of_ble_eq_true rfl), (Nat.le_of_ble_eq_true rfl)⟩ rfl (fun r w1 H locs hQ V => ?_)
          rcases hQ with ⟨rfl, rfl, f_4⟩ | ⟨rfl, rfl, f_5⟩
          · have V : gW D T A s [(o, .inr (8, [.int w0, .ref g1, .ref g2, .ref g3, .ref g4, .int (nI tp), .int w6, .int w7, .int w8, .int w9, .int w10, .int w11, .int w12, .int w13, .int w14, .ref g15, .int w16, .ref g17, .int w18, .int w19, .ref g20, .int w21, .ref g22, .ref g23, .ref g24, .int w25, .int w26, .int w27, .ref g28, .ref g29, .int bv, .ref g31, .ref g32, .ref g33])), (g1, .inl (T 0, 282, .inl fa)), (g28, .inl (T 0, 7, .inl f72)), (g29, .inl (T 0, 7, .inl gb72))] H locs := V _ [] rfl rfl rfl (by decide +kernel) rfl
            show W p l e _ s m args below meth c H locs _ _ _ (F0 m 90 ls [.int (nI 1)])
            refine lv_if_eq (tgt := 96) hx hb dX8_lays_90 (by decide) (fun c => absurd (show (nI 1) = 0 from c) (by decide +kernel)) (fun _ => ?_)
            refine lv_goto (tgt := 126) hx hb dX8_lays_93 (by decide) ?_
            refine lv_iinc (v := (nI (k72 + 1))) (lv' := [(4, .int (nI (k72 + 1))), (0, .ref o), (1, .int (nI 5)), (2, .int (nI u)), (3, .int sum)]) hx hb dX8_lays_126 hl (k := 0) rfl (nI_1 _) (by decide) rfl (fun ls hl => ?_)
            refine lv_goto (tgt := 72) hx hb dX8_lays_129 (by decide) ?_
            exact ih_72 (k72 + 1) bv f72 gb72 (by omega) (by assumption) (by omega) _ _ _ V (lv_sub hl [0, 1, 2, 3, 4] rfl)
          · have V : gW D T A s [(o, .inr (8, [.int w0, .ref g1, .ref g2, .ref g3, .ref g4, .int (nI tp), .int w6, .int w7, .int w8, .int w9, .int w10, .int w11, .int w12, .int w13, .int w14, .ref g15, .int w16, .ref g17, .int w18, .int w19, .ref g20, .int w21, .ref g22, .ref g23, .ref g24, .int w25, .int w26, .int w27, .ref g28, .ref g29, .int bv, .ref g31, .ref g32, .ref g33])), (g1, .inl (T 0, 282, .inl fa)), (g28, .inl (T 0, 7, .inl f72)), (g29, .inl (T 0, 7, .inl gb72))] H locs := V _ [] rfl rfl rfl (by decide +kernel) rfl
            show W p l e _ s m args below meth c H locs _ _ _ (F0 m 90 ls [.int (nI 0)])
            refine lv_if_eq (tgt := 96) hx hb dX8_lays_90 (by decide) (fun _ => ?_) (fun c => absurd (show (nI 0) = 0 by decide +kernel) c)
            refine lv_aload_n hx hb dX8_lays_96 rfl (lv_at hl 1 rfl) ?_
            refine g_get hC V (ci := 8) uwX8 0 rfl rfl 28 (by decide) w_940 rfl rfl dX8_lays_97 ?_
            refine lv_iload_n hx hb dX8_lays_100 rfl (lv_at hl 2 rfl) ?_
            refine lv_iload hx hb dX8_lays_101 (lv_at hl 0 rfl) ?_
            refine g_iast hC V 2 rfl (vp_in_nI (by decide) (by decide)) (f' := (upd f72 5 (nI k72))) (by rw [nI_clamp (by decide)]) (ws' := [(o, .inr (8, [.int w0, .ref g1, .ref g2, .ref g3, .ref g4, .int (nI tp), .int w6, .int w7, .int w8, .int w9, .int w10, .int w11, .int w12, .int w13, .int w14, .ref g15, .int w16, .ref g17, .int w18, .int w19, .ref g20, .int w21, .ref g22, .ref g23, .ref g24, .int w25, .int w26, .int w27, .ref g28, .ref g29, .int bv, .ref g31, .ref g32, .ref g33])), (g1, .inl (T 0, 282, .inl fa)), (g28, .inl (T 0, 7, .inl (upd f72 5 (nI k72)))), (g29, .inl (T 0, 7, .inl gb72))]) rfl dX8_lays_103 (fun H locs V => ?_)
            refine lv_aload_n hx hb dX8_lays_104 rfl (lv_at hl 1 rfl) ?_
            refine lv_iload_n hx hb dX8_lays_105 rfl (lv_at hl 2 rfl) ?_
            refine lv_iconst (v := (nI 1)) hx hb dX8_lays_106 (by decide +kernel) ?_
            refine lv_iadd hx hb dX8_lays_107 ?_
            refine g_vi (y := (nI 6)) (by decide +kernel) ?_
            refine lv_iload_n hx hb dX8_lays_108 rfl (lv_at hl 3 rfl) ?_
            refine lv_iconst (v := (nI 1)) hx hb dX8_lays_109 (by decide +kernel) ?_
            refine lv_iload hx hb dX8_lays_110 (lv_at hl 0 rfl) ?_
            refine lv_ishl hx hb dX8_lays_112 ?_
            refine g_vi (y := (nI (2 ^ k72))) (shl_pow (by omega)) ?_
            refine lv_ior hx hb dX8_lays_113 ?_
            refine g_vi (y := nI (u ||| (2 ^ k72))) (or7 (by omega) (by omega)) ?_
            refine lv_iload_n hx hb dX8_lays_114 rfl (lv_at hl 4 rfl) ?_
            refine lv_aload_n hx hb dX8_lays_115 rfl (lv_at hl 1 rfl) ?_
            refine lv_iload_n hx hb dX8_lays_116 rfl (lv_at hl 2 rfl) ?_
            refine lv_iload hx hb dX8_lays_117 (lv_at hl 0 rfl) ?_
            refine g_callVU (nA := 2) hC V hl.1 (m_offBy l D T o 5 k72 w0 g1 g2 g3 g4 tp w6 w7 w8 w9 w10 w11 w12 w13 w14 g15 w16 g17 w18 w19 g20 w21 g22 g23 g24 w25 w26 w27 g28 g29 bv g31 g32 g33 fa (by first | assumption | omega) (by first | assumption | omega)) w_1328 w_1330 w_s77 w_9 w_1331 (by decide +kernel) rfl ⟨(Nat.le_of_ble_eq_true rfl), (Nat.le_of_ble_eq_true rfl)⟩ 0 (ci := 8) rfl rfl [0, 1] rfl rfl (Nat.le_of_ble_eq_true rfl) dX8_lays_119 ⟨(Nat.le_of_ble_eq_true rfl), (Nat.le_of_ble_eq_true rfl)⟩ rfl (fun r w1 H locs hQ V => ?_)
            obtain ⟨z_6, rfl, rfl⟩ := hQ
            have V : gW D T A s [(o, .inr (8, [.int w0, .ref g1, .ref g2, .ref g3, .ref g4, .int (nI tp), .int w6, .int w7, .int w8, .int w9, .int w10, .int w11, .int w12, .int w13, .int w14, .ref g15, .int w16, .ref g17, .int w18, .int w19, .ref g20, .int w21, .ref g22, .ref g23, .ref g24, .int w25, .int w26, .int w27, .ref g28, .ref g29, .int bv, .ref g31, .ref g32, .ref g33])), (g1, .inl (T 0, 282, .inl fa)), (g28, .inl (T 0, 7, .inl (upd f72 5 (nI k72)))), (g29, .inl (T 0, 7, .inl gb72))] H locs := V _ [0, 0] rfl rfl rfl (by decide +kernel) rfl
            show W p l e _ s m args below meth c H locs _ _ _ (F0 m 122 ls [.int z_6, .int sum, .int (nI (u ||| (2 ^ k72))), .int (nI 6), .ref o])
            refine lv_iadd hx hb dX8_lays_122 ?_
            refine g_callV (wr := []) (nA := 3) hC V hl.1 (m_lays6 l D T n o (u ||| (2 ^ k72)) (sum + z_6) w0 g1 g2 g3 g4 tp w6 w7 w8 w9 w10 w11 w12 w13 w14 g15 w16 g17 w18 w19 g20 w21 g22 g23 g24 w25 w26 w27 g28 g29 bv g31 g32 g33 fa (upd f72 5 (nI k72)) gb72 h_a (li_put (li_ext h_li hpre) (by omega) (ub_free (ub_ext h_ub hpre) (by assumption))) (lt_put h_lt hpre (by omega) h_7) (ub_put (ub_ext h_ub hpre) (by omega)) h_1 h_7 (by omega)) w_1320 w_1322 w_s75 w_9 w_1323 (by decide +kernel) rfl ⟨(Nat.le_of_ble_eq_true rfl), (Nat.le_of_ble_eq_true rfl)⟩ 0 (ci := 8) rfl rfl [0, 1, 2, 3] [] rfl rfl rfl rfl (by decide) (Nat.le_of_ble_eq_true rfl) dX8_lays_123 ⟨(Nat.le_of_ble_eq_true rfl), (Nat.le_of_ble_eq_true rfl)⟩ rfl (fun r w1 H locs hQ V => ?_)
            obtain ⟨bs_7, go_8, gp_9, rfl, rfl, f_10⟩ := hQ
            have V : gW D T A s [(o, .inr (8, [.int w0, .ref g1, .ref g2, .ref g3, .ref g4, .int (nI tp), .int w6, .int w7, .int w8, .int w9, .int w10, .int w11, .int w12, .int w13, .int w14, .ref g15, .int w16, .ref g17, .int w18, .int w19, .ref g20, .int w21, .ref g22, .ref g23, .ref g24, .int w25, .int w26, .int w27, .ref g28, .ref g29, .int bs_7, .ref g31, .ref g32, .ref g33])), (g1, .inl (T 0, 282, .inl fa)), (g28, .inl (T 0, 7, .inl go_8)), (g29, .inl (T 0, 7, .inl gp_9))] H locs := V
            show W p l e _ s m args below meth c H locs _ _ _ (F0 m 126 ls [])
            have hpre2 : ∀ j, j < 5 → go_8 j = fo j := fun j hj => (f_10 j (by omega)).trans ((up_other (by omega)).trans (hpre j hj))
            refine lv_iinc (v := (nI (k72 + 1))) (lv' := [(4, .int (nI (k72 + 1))), (0, .ref o), (1, .int (nI 5)), (2, .int (nI u)), (3, .int sum)]) hx hb dX8_lays_126 hl (k := 0) rfl (nI_1 _) (by decide) rfl (fun ls hl => ?_)
            refine lv_goto (tgt := 72) hx hb dX8_lays_129 (by decide) ?_
            exact ih_72 (k72 + 1) bs_7 go_8 gp_9 (by omega) (by assumption) (by omega) _ _ _ V (lv_sub hl [0, 1, 2, 3, 4] rfl)
    exact L_2 _ 0 w30 fo fp (by omega) (fun _ _ => rfl) (Nat.lt_succ_self _) _ _ _ V (lv_sub hl [0, 1, 2, 3, 4] rfl)
  · skip
    have c_1 := b_eq (by omega) (by omega) c_1
    have hkn : 5 = n := c_1
    refine lv_aload_n hx hb dX8_lays_10 rfl (lv_at hl 0 rfl) ?_
    refine g_callVU (nA := 0) hC V hl.1 (m_isOneRing l D T n o w0 g1 g2 g3 g4 tp w6 w7 w8 w9 w10 w11 w12 w13 w14 g15 w16 g17 w18 w19 g20 w21 g22 g23 g24 w25 w26 w27 g28 g29 w30 g31 g32 g33 fa fo h_a (lf_of h_li h_lt (by omega)) h_1 h_7) w_1324 w_1326 w_s76 w_9 w_1327 (by decide +kernel) rfl ⟨(Nat.le_of_ble_eq_true rfl), (Nat.le_of_ble_eq_true rfl)⟩ 0 (ci := 8) rfl rfl [0, 1, 2] rfl rfl (Nat.le_of_ble_eq_true rfl) dX8_lays_11 ⟨(Nat.le_of_ble_eq_true rfl), (Nat.le_of_ble_eq_true rfl)⟩ rfl (fun r w1 H locs hQ V => ?_)
    rcases hQ with ⟨rfl, rfl⟩ | ⟨rfl, rfl⟩
    · have V : gW D T A s [(o, .inr (8, [.int w0, .ref g1, .ref g2, .ref g3, .ref g4, .int (nI tp), .int w6, .int w7, .int w8, .int w9, .int w10, .int w11, .int w12, .int w13, .int w14, .ref g15, .int w16, .ref g17, .int w18, .int w19, .ref g20, .int w21, .ref g22, .ref g23, .ref g24, .int w25, .int w26, .int w27, .ref g28, .ref g29, .int w30, .ref g31, .ref g32, .ref g33])), (g1, .inl (T 0, 282, .inl fa)), (g28, .inl (T 0, 7, .inl fo)), (g29, .inl (T 0, 7, .inl fp))] H locs := V _ [0, 0, 0] rfl rfl rfl (by decide +kernel) rfl
      show W p l e _ s m args below meth c H locs _ _ _ (F0 m 14 ls [.int (nI 1)])
      refine lv_if_eq (tgt := 33) hx hb dX8_lays_14 (by decide) (fun c => absurd (show (nI 1) = 0 from c) (by decide +kernel)) (fun _ => ?_)
      refine lv_aload_n hx hb dX8_lays_17 rfl (lv_at hl 0 rfl) ?_
      refine g_get hC V (ci := 8) uwX8 0 rfl rfl 30 (by decide) w_942 rfl rfl dX8_lays_18 ?_
      refine lv_iconst (v := (-1)) hx hb dX8_lays_21 (by decide +kernel) ?_
      refine lv_icmp_eq (tgt := 34) hx hb dX8_lays_22 (by decide) (fun c_11 => ?_) (fun c_11 => ?_)
      · skip
        refine lv_aload_n hx hb dX8_lays_34 rfl (lv_at hl 0 rfl) ?_
        refine lv_iload_n hx hb dX8_lays_35 rfl (lv_at hl 3 rfl) ?_
        refine g_put hC V (ci := 8) uwX8 tyX8 tyX8_ok nmX8 0 rfl rfl 30 (by decide) w_942 rfl rfl rfl rfl (Nat.le_of_ble_eq_true rfl) (ws' := [(o, .inr (8, [.int w0, .ref g1, .ref g2, .ref g3, .ref g4, .int (nI tp), .int w6, .int w7, .int w8, .int w9, .int w10, .int w11, .int w12, .int w13, .int w14, .ref g15, .int w16, .ref g17, .int w18, .int w19, .ref g20, .int w21, .ref g22, .ref g23, .ref g24, .int w25, .int w26, .int w27, .ref g28, .ref g29, .int sum, .ref g31, .ref g32, .ref g33])), (g1, .inl (T 0, 282, .inl fa)), (g28, .inl (T 0, 7, .inl fo)), (g29, .inl (T 0, 7, .inl fp))]) rfl dX8_lays_36 (fun H locs V => ?_)
        refine lv_iconst (v := (nI 0)) hx hb dX8_lays_39 (by decide +kernel) ?_
        refine lv_istore (lv' := [(4, .int (nI 0)), (0, .ref o), (1, .int (nI 5)), (2, .int (nI u)), (3, .int sum)]) hx hb dX8_lays_40 hl (by decide) rfl (fun ls hl => ?_)
        have L_12 : ∀ (fu : Nat) (k42 : Nat) (gb42 : Nat → Int32), k42 ≤ 5 → 5 - k42 < fu → ∀ (H : Heap) (locs : List Loc) (ls : Array Slot), gW D T A s [(o, .inr (8, [.int w0, .ref g1, .ref g2, .ref g3, .ref g4, .int (nI tp), .int w6, .int w7, .int w8, .int w9, .int w10, .int w11, .int w12, .int w13, .int w14, .ref g15, .int w16, .ref g17, .int w18, .int w19, .ref g20, .int w21, .ref g22, .ref g23, .ref g24, .int w25, .int w26, .int w27, .ref g28, .ref g29, .int sum, .ref g31, .ref g32, .ref g33])), (g1, .inl (T 0, 282, .inl fa)), (g28, .inl (T 0, 7, .inl fo)), (g29, .inl (T 0, 7, .inl gb42))] H locs → lv_has ls 5 [(4, .int (nI k42)), (0, .ref o), (1, .int (nI 5)), (2, .int (nI u)), (3, .int sum)] → W p l e (rmD 4 0 0) s m args below meth c H locs 0 0 (MQ below (gQ D A (q_m_lays5 T n o u sum w0 g1 g2 g3 g4 tp w6 w7 w8 w9 w10 w11 w12 w13 w14 g15 w16 g17 w18 w19 g20 w21 g22 g23 g24 w25 w26 w27 g28 g29 w30 g31 g32 g33 fa fo fp)) args s 0 0 A) (F0 m 42 ls []) := by
          intro fu_42
          induction fu_42 with
          | zero => intro k42 gb42 hk42 hmu; exact absurd hmu (Nat.not_lt_zero _)
          | succ fu_42 ih_42 =>
            intro k42 gb42 hk42 hmu_42 H locs ls V hl
            refine lv_iload hx hb dX8_lays_42 (lv_at hl 0 rfl) ?_
            refine lv_iload_n hx hb dX8_lays_44 rfl (lv_at hl 2 rfl) ?_
            refine lv_icmp_ge (tgt := 68) hx hb dX8_lays_45 (by decide) (fun c_13 => ?_) (fun c_13 => ?_)
            · skip
              have c_13 := b_le (by omega) (by omega) c_13
              exact g_vret (Qr := (q_m_lays5 T n o u sum w0 g1 g2 g3 g4 tp w6 w7 w8 w9 w10 w11 w12 w13 w14 g15 w16 g17 w18 w19 g20 w21 g22 g23 g24 w25 w26 w27 g28 g29 w30 g31 g32 g33 fa fo fp)) hC V ⟨(Nat.le_of_ble_eq_true rfl), (Nat.le_of_ble_eq_true rfl)⟩ ⟨sum, fo, gb42, rfl, rfl, (fun _ _ => rfl)⟩ dX8_lays_68
            · skip
              have c_13 := b_nle (by omega) (by omega) c_13
              refine lv_aload_n hx hb dX8_lays_48 rfl (lv_at hl 1 rfl) ?_
              refine g_get hC V (ci := 8) uwX8 0 rfl rfl 29 (by decide) w_941 rfl rfl dX8_lays_49 ?_
              refine lv_iload hx hb dX8_lays_52 (lv_at hl 0 rfl) ?_
              refine lv_aload_n hx hb dX8_lays_54 rfl (lv_at hl 1 rfl) ?_
              refine g_get hC V (ci := 8) uwX8 0 rfl rfl 28 (by decide) w_940 rfl rfl dX8_lays_55 ?_
              refine lv_iload hx hb dX8_lays_58 (lv_at hl 0 rfl) ?_
              refine g_iald hC V 2 rfl (vp_in_nI (by omega) (by omega)) (v := (fo k42)) (congrArg _ (nI_clamp (by omega))) dX8_lays_60 ?_
              refine g_iast hC V 3 rfl (vp_in_nI (by omega) (by omega)) (f' := (upd gb42 k42 (fo k42))) (by rw [nI_clamp (by omega)]) (ws' := [(o, .inr (8, [.int w0, .ref g1, .ref g2, .ref g3, .ref g4, .int (nI tp), .int w6, .int w7, .int w8, .int w9, .int w10, .int w11, .int w12, .int w13, .int w14, .ref g15, .int w16, .ref g17, .int w18, .int w19, .ref g20, .int w21, .ref g22, .ref g23, .ref g24, .int w25, .int w26, .int w27, .ref g28, .ref g29, .int sum, .ref g31, .ref g32, .ref g33])), (g1, .inl (T 0, 282, .inl fa)), (g28, .inl (T 0, 7, .inl fo)), (g29, .inl (T 0, 7, .inl (upd gb42 k42 (fo k42))))]) rfl dX8_lays_61 (fun H locs V => ?_)
              refine lv_iinc (v := (nI (k42 + 1))) (lv' := [(4, .int (nI (k42 + 1))), (0, .ref o), (1, .int (nI 5)), (2, .int (nI u)), (3, .int sum)]) hx hb dX8_lays_62 hl (k := 0) rfl (nI_1 _) (by decide) rfl (fun ls hl => ?_)
              refine lv_goto (tgt := 42) hx hb dX8_lays_65 (by decide) ?_
              exact ih_42 (k42 + 1) (upd gb42 k42 (fo k42)) (by omega) (by omega) _ _ _ V (lv_sub hl [0, 1, 2, 3, 4] rfl)
        exact L_12 _ 0 fp (by omega) (Nat.lt_succ_self _) _ _ _ V (lv_sub hl [0, 1, 2, 3, 4] rfl)
      · skip
        refine lv_iload_n hx hb dX8_lays_25 rfl (lv_at hl 3 rfl) ?_
        refine lv_aload_n hx hb dX8_lays_26 rfl (lv_at hl 0 rfl) ?_
        refine g_get hC V (ci := 8) uwX8 0 rfl rfl 30 (by decide) w_942 rfl rfl dX8_lays_27 ?_
        refine lv_icmp_lt (tgt := 34) hx hb dX8_lays_30 (by decide) (fun c_14 => ?_) (fun c_14 => ?_)
        · skip
          refine lv_aload_n hx hb dX8_lays_34 rfl (lv_at hl 0 rfl) ?_
          refine lv_iload_n hx hb dX8_lays_35 rfl (lv_at hl 3 rfl) ?_
          refine g_put hC V (ci := 8) uwX8 tyX8 tyX8_ok nmX8 0 rfl rfl 30 (by decide) w_942 rfl rfl rfl rfl (Nat.le_of_ble_eq_true rfl) (ws' := [(o, .inr (8, [.int w0, .ref g1, .ref g2, .ref g3, .ref g4, .int (nI tp), .int w6, .int w7, .int w8, .int w9, .int w10, .int w11, .int w12, .int w13, .int w14, .ref g15, .int w16, .ref g17, .int w18, .int w19, .ref g20, .int w21, .ref g22, .ref g23, .ref g24, .int w25, .int w26, .int w27, .ref g28, .ref g29, .int sum, .ref g31, .ref g32, .ref g33])), (g1, .inl (T 0, 282, .inl fa)), (g28, .inl (T 0, 7, .inl fo)), (g29, .inl (T 0, 7, .inl fp))]) rfl dX8_lays_36 (fun H locs V => ?_)
          refine lv_iconst (v := (nI 0)) hx hb dX8_lays_39 (by decide +kernel) ?_
          refine lv_istore (lv' := [(4, .int (nI 0)), (0, .ref o), (1, .int (nI 5)), (2, .int (nI u)), (3, .int sum)]) hx hb dX8_lays_40 hl (by decide) rfl (fun ls hl => ?_)
          have L_15 : ∀ (fu : Nat) (k42 : Nat) (gb42 : Nat → Int32), k42 ≤ 5 → 5 - k42 < fu → ∀ (H : Heap) (locs : List Loc) (ls : Array Slot), gW D T A s [(o, .inr (8, [.int w0, .ref g1, .ref g2, .ref g3, .ref g4, .int (nI tp), .int w6, .int w7, .int w8, .int w9, .int w10, .int w11, .int w12, .int w13, .int w14, .ref g15, .int w16, .ref g17, .int w18, .int w19, .ref g20, .int w21, .ref g22, .ref g23, .ref g24, .int w25, .int w26, .int w27, .ref g28, .ref g29, .int sum, .ref g31, .ref g32, .ref g33])), (g1, .inl (T 0, 282, .inl fa)), (g28, .inl (T 0, 7, .inl fo)), (g29, .inl (T 0, 7, .inl gb42))] H locs → lv_has ls 5 [(4, .int (nI k42)), (0, .ref o), (1, .int (nI 5)), (2, .int (nI u)), (3, .int sum)] → W p l e (rmD 4 0 0) s m args below meth c H locs 0 0 (MQ below (gQ D A (q_m_lays5 T n o u sum w0 g1 g2 g3 g4 tp w6 w7 w8 w9 w10 w11 w12 w13 w14 g15 w16 g17 w18 w19 g20 w21 g22 g23 g24 w25 w26 w27 g28 g29 w30 g31 g32 g33 fa fo fp)) args s 0 0 A) (F0 m 42 ls []) := by
            intro fu_42
            induction fu_42 with
            | zero => intro k42 gb42 hk42 hmu; exact absurd hmu (Nat.not_lt_zero _)
            | succ fu_42 ih_42 =>
              intro k42 gb42 hk42 hmu_42 H locs ls V hl
              refine lv_iload hx hb dX8_lays_42 (lv_at hl 0 rfl) ?_
              refine lv_iload_n hx hb dX8_lays_44 rfl (lv_at hl 2 rfl) ?_
              refine lv_icmp_ge (tgt := 68) hx hb dX8_lays_45 (by decide) (fun c_16 => ?_) (fun c_16 => ?_)
              · skip
                have c_16 := b_le (by omega) (by omega) c_16
                exact g_vret (Qr := (q_m_lays5 T n o u sum w0 g1 g2 g3 g4 tp w6 w7 w8 w9 w10 w11 w12 w13 w14 g15 w16 g17 w18 w19 g20 w21 g22 g23 g24 w25 w26 w27 g28 g29 w30 g31 g32 g33 fa fo fp)) hC V ⟨(Nat.le_of_ble_eq_true rfl), (Nat.le_of_ble_eq_true rfl)⟩ ⟨sum, fo, gb42, rfl, rfl, (fun _ _ => rfl)⟩ dX8_lays_68
              · skip
                have c_16 := b_nle (by omega) (by omega) c_16
                refine lv_aload_n hx hb dX8_lays_48 rfl (lv_at hl 1 rfl) ?_
                refine g_get hC V (ci := 8) uwX8 0 rfl rfl 29 (by decide) w_941 rfl rfl dX8_lays_49 ?_
                refine lv_iload hx hb dX8_lays_52 (lv_at hl 0 rfl) ?_
                refine lv_aload_n hx hb dX8_lays_54 rfl (lv_at hl 1 rfl) ?_
                refine g_get hC V (ci := 8) uwX8 0 rfl rfl 28 (by decide) w_940 rfl rfl dX8_lays_55 ?_
                refine lv_iload hx hb dX8_lays_58 (lv_at hl 0 rfl) ?_
                refine g_iald hC V 2 rfl (vp_in_nI (by omega) (by omega)) (v := (fo k42)) (congrArg _ (nI_clamp (by omega))) dX8_lays_60 ?_
                refine g_iast hC V 3 rfl (vp_in_nI (by omega) (by omega)) (f' := (upd gb42 k42 (fo k42))) (by rw [nI_clamp (by omega)]) (ws' := [(o, .inr (8, [.int w0, .ref g1, .ref g2, .ref g3, .ref g4, .int (nI tp), .int w6, .int w7, .int w8, .int w9, .int w10, .int w11, .int w12, .int w13, .int w14, .ref g15, .int w16, .ref g17, .int w18, .int w19, .ref g20, .int w21, .ref g22, .ref g23, .ref g24, .int w25, .int w26, .int w27, .ref g28, .ref g29, .int sum, .ref g31, .ref g32, .ref g33])), (g1, .inl (T 0, 282, .inl fa)), (g28, .inl (T 0, 7, .inl fo)), (g29, .inl (T 0, 7, .inl (upd gb42 k42 (fo k42))))]) rfl dX8_lays_61 (fun H locs V => ?_)
                refine lv_iinc (v := (nI (k42 + 1))) (lv' := [(4, .int (nI (k42 + 1))), (0, .ref o), (1, .int (nI 5)), (2, .int (nI u)), (3, .int sum)]) hx hb dX8_lays_62 hl (k := 0) rfl (nI_1 _) (by decide) rfl (fun ls hl => ?_)
                refine lv_goto (tgt := 42) hx hb dX8_lays_65 (by decide) ?_
                exact ih_42 (k42 + 1) (upd gb42 k42 (fo k42)) (by omega) (by omega) _ _ _ V (lv_sub hl [0, 1, 2, 3, 4] rfl)
          exact L_15 _ 0 fp (by omega) (Nat.lt_succ_self _) _ _ _ V (lv_sub hl [0, 1, 2, 3, 4] rfl)
        · skip
          exact g_vret (Qr := (q_m_lays5 T n o u sum w0 g1 g2 g3 g4 tp w6 w7 w8 w9 w10 w11 w12 w13 w14 g15 w16 g17 w18 w19 g20 w21 g22 g23 g24 w25 w26 w27 g28 g29 w30 g31 g32 g33 fa fo fp)) hC V ⟨(Nat.le_of_ble_eq_true rfl), (Nat.le_of_ble_eq_true rfl)⟩ ⟨w30, fo, fp, rfl, rfl, (fun _ _ => rfl)⟩ dX8_lays_33
    · have V : gW D T A s [(o, .inr (8, [.int w0, .ref g1, .ref g2, .ref g3, .ref g4, .int (nI tp), .int w6, .int w7, .int w8, .int w9, .int w10, .int w11, .int w12, .int w13, .int w14, .ref g15, .int w16, .ref g17, .int w18, .int w19, .ref g20, .int w21, .ref g22, .ref g23, .ref g24, .int w25, .int w26, .int w27, .ref g28, .ref g29, .int w30, .ref g31, .ref g32, .ref g33])), (g1, .inl (T 0, 282, .inl fa)), (g28, .inl (T 0, 7, .inl fo)), (g29, .inl (T 0, 7, .inl fp))] H locs := V _ [0, 0, 0] rfl rfl rfl (by decide +kernel) rfl
      show W p l e _ s m args below meth c H locs _ _ _ (F0 m 14 ls [.int (nI 0)])
      refine lv_if_eq (tgt := 33) hx hb dX8_lays_14 (by decide) (fun _ => ?_) (fun c => absurd (show (nI 0) = 0 by decide +kernel) c)
      exact g_vret (Qr := (q_m_lays5 T n o u sum w0 g1 g2 g3 g4 tp w6 w7 w8 w9 w10 w11 w12 w13 w14 g15 w16 g17 w18 w19 g20 w21 g22 g23 g24 w25 w26 w27 g28 g29 w30 g31 g32 g33 fa fo fp)) hC V ⟨(Nat.le_of_ble_eq_true rfl), (Nat.le_of_ble_eq_true rfl)⟩ ⟨w30, fo, fp, rfl, rfl, (fun _ _ => rfl)⟩ dX8_lays_33

def q_m_lays4 (T : Nat → ClassId) (n : Nat) (o : Nat) (u : Nat) (sum : Int32) (w0 : Int32) (g1 : Nat) (g2 : Nat) (g3 : Nat) (g4 : Nat) (tp : Nat) (w6 : Int32) (w7 : Int32) (w8 : Int32) (w9 : Int32) (w10 : Int32) (w11 : Int32) (w12 : Int32) (w13 : Int32) (w14 : Int32) (g15 : Nat) (w16 : Int32) (g17 : Nat) (w18 : Int32) (w19 : Int32) (g20 : Nat) (w21 : Int32) (g22 : Nat) (g23 : Nat) (g24 : Nat) (w25 : Int32) (w26 : Int32) (w27 : Int32) (g28 : Nat) (g29 : Nat) (w30 : Int32) (g31 : Nat) (g32 : Nat) (g33 : Nat) (fa : Nat → Int32) (fo : Nat → Int32) (fp : Nat → Int32) : Option Value → va_W → Prop := fun rr ww => (∃ (bs : Int32) (go : Nat → Int32) (gp : Nat → Int32), rr = none ∧ ww = [(o, .inr (8, [.int w0, .ref g1, .ref g2, .ref g3, .ref g4, .int (nI tp), .int w6, .int w7, .int w8, .int w9, .int w10, .int w11, .int w12, .int w13, .int w14, .ref g15, .int w16, .ref g17, .int w18, .int w19, .ref g20, .int w21, .ref g22, .ref g23, .ref g24, .int w25, .int w26, .int w27, .ref g28, .ref g29, .int bs, .ref g31, .ref g32, .ref g33])), (g1, .inl (T 0, 282, .inl fa)), (g28, .inl (T 0, 7, .inl go)), (g29, .inl (T 0, 7, .inl gp))] ∧ (∀ j, j < 4 → go j = fo j))
set_option maxHeartbeats 4000000 in
set_option maxRecDepth 100000 in
theorem m_lays4 (l : Launch) (D : va_G) (T : Nat → ClassId) (n : Nat) (o : Nat) (u : Nat) (sum : Int32) (w0 : Int32) (g1 : Nat) (g2 : Nat) (g3 : Nat) (g4 : Nat) (tp : Nat) (w6 : Int32) (w7 : Int32) (w8 : Int32) (w9 : Int32) (w10 : Int32) (w11 : Int32) (w12 : Int32) (w13 : Int32) (w14 : Int32) (g15 : Nat) (w16 : Int32) (g17 : Nat) (w18 : Int32) (w19 : Int32) (g20 : Nat) (w21 : Int32) (g22 : Nat) (g23 : Nat) (g24 : Nat) (w25 : Int32) (w26 : Int32) (w27 : Int32) (g28 : Nat) (g29 : Nat) (w30 : Int32) (g31 : Nat) (g32 : Nat) (g33 : Nat) (fa : Nat → Int32) (fo : Nat → Int32) (fp : Nat → Int32) (h_a : MI n fa) (h_li : LI 4 fo) (h_lt : ∀ j, j < 4 → toF fo j < n) (h_ub : UB 4 u fo) (h_1 : 1 ≤ n) (h_7 : n ≤ 7) (h_kn : 4 ≤ n) : Ct l yX8_lays cX8_lays 5 none 5 0 0 D T [.ref o, .int (nI 4), .int (nI u), .int sum] [(o, .inr (8, [.int w0, .ref g1, .ref g2, .ref g3, .ref g4, .int (nI tp), .int w6, .int w7, .int w8, .int w9, .int w10, .int w11, .int w12, .int w13, .int w14, .ref g15, .int w16, .ref g17, .int w18, .int w19, .ref g20, .int w21, .ref g22, .ref g23, .ref g24, .int w25, .int w26, .int w27, .ref g28, .ref g29, .int w30, .ref g31, .ref g32, .ref g33])), (g1, .inl (T 0, 282, .inl fa)), (g28, .inl (T 0, 7, .inl fo)), (g29, .inl (T 0, 7, .inl fp))] (q_m_lays4 T n o u sum w0 g1 g2 g3 g4 tp w6 w7 w8 w9 w10 w11 w12 w13 w14 g15 w16 g17 w18 w19 g20 w21 g22 g23 g24 w25 w26 w27 g28 g29 w30 g31 g32 g33 fa fo fp) := by
  refine Ct.of (cc := cX8_lays) (maxL := 5) (ret := none) (by decide) (Nat.le_of_ble_eq_true rfl) ?_
  intro p e s m args below meth c A ls hC hnm V hl
  obtain ⟨hx, hb, hr, hml, hown, hts, hlocks⟩ := id hC
  generalize hH : s.heap = H at V ⊢
  clear hH
  have hl : lv_has ls 5 [(0, .ref o), (1, .int (nI 4)), (2, .int (nI u)), (3, .int sum)] := hl
  generalize hlo : ([] : List Loc) = locs at V ⊢
  clear hlo
  have ms0 := ms_rf h_a
  have hn10 := h_a.1
  have hu := h_ub.1
  refine lv_iload_n hx hb dX8_lays_0 rfl (lv_at hl 1 rfl) ?_
  refine lv_aload_n hx hb dX8_lays_1 rfl (lv_at hl 0 rfl) ?_
  refine g_get hC V (ci := 8) uwX8 0 rfl rfl 1 (by decide) w_913 rfl rfl dX8_lays_2 ?_
  refine lv_iconst (v := (nI 0)) hx hb dX8_lays_5 (by decide +kernel) ?_
  refine g_iald hC V 1 rfl (vp_in_nI (by decide) (by decide)) (v := (nI n)) (by rw [nI_clamp (by decide)]; first | rfl | exact h_a.2.1) dX8_lays_6 ?_
  refine lv_icmp_ne (tgt := 69) hx hb dX8_lays_7 (by decide) (fun c_1 => ?_) (fun c_1 => ?_)
  · skip
    have c_1 := b_ne (by omega) (by omega) c_1
    refine lv_iconst (v := (nI 0)) hx hb dX8_lays_69 (by decide +kernel) ?_
    refine lv_istore (lv' := [(4, .int (nI 0)), (0, .ref o), (1, .int (nI 4)), (2, .int (nI u)), (3, .int sum)]) hx hb dX8_lays_70 hl (by decide) rfl (fun ls hl => ?_)
    have L_2 : ∀ (fu : Nat) (k72 : Nat) (bv : Int32) (f72 : Nat → Int32) (gb72 : Nat → Int32), k72 ≤ n → (∀ j, j < 4 → f72 j = fo j) → n - k72 < fu → ∀ (H : Heap) (locs : List Loc) (ls : Array Slot), gW D T A s [(o, .inr (8, [.int w0, .ref g1, .ref g2, .ref g3, .ref g4, .int (nI tp), .int w6, .int w7, .int w8, .int w9, .int w10, .int w11, .int w12, .int w13, .int w14, .ref g15, .int w16, .ref g17, .int w18, .int w19, .ref g20, .int w21, .ref g22, .ref g23, .ref g24, .int w25, .int w26, .int w27, .ref g28, .ref g29, .int bv, .ref g31, .ref g32, .ref g33])), (g1, .inl (T 0, 282, .inl fa)), (g28, .inl (T 0, 7, .inl f72)), (g29, .inl (T 0, 7, .inl gb72))] H locs → lv_has ls 5 [(4, .int (nI k72)), (0, .ref o), (1, .int (nI 4)), (2, .int (nI u)), (3, .int sum)] → W p l e (rmD 5 0 0) s m args below meth c H locs 0 0 (MQ below (gQ D A (q_m_lays4 T n o u sum w0 g1 g2 g3 g4 tp w6 w7 w8 w9 w10 w11 w12 w13 w14 g15 w16 g17 w18 w19 g20 w21 g22 g23 g24 w25 w26 w27 g28 g29 w30 g31 g32 g33 fa fo fp)) args s 0 0 A) (F0 m 72 ls []) := by
      intro fu_72
      induction fu_72 with
      | zero => intro k72 bv f72 gb72 hk72 hpre hmu; exact absurd hmu (Nat.not_lt_zero _)
      | succ fu_72 ih_72 =>
        intro k72 bv f72 gb72 hk72 hpre hmu_72 H locs ls V hl
        refine lv_iload hx hb dX8_lays_72 (lv_at hl 0 rfl) ?_
        refine lv_aload_n hx hb dX8_lays_74 rfl (lv_at hl 1 rfl) ?_
        refine g_get hC V (ci := 8) uwX8 0 rfl rfl 1 (by decide) w_913 rfl rfl dX8_lays_75 ?_
        refine lv_iconst (v := (nI 0)) hx hb dX8_lays_78 (by decide +kernel) ?_
        refine g_iald hC V 1 rfl (vp_in_nI (by decide) (by decide)) (v := (nI n)) (by rw [nI_clamp (by decide)]; first | rfl | exact h_a.2.1) dX8_lays_79 ?_
        refine lv_icmp_ge (tgt := 132) hx hb dX8_lays_80 (by decide) (fun c_3 => ?_) (fun c_3 => ?_)
        · skip
          have c_3 := b_le (by omega) (by omega) c_3
          exact g_vret (Qr := (q_m_lays4 T n o u sum w0 g1 g2 g3 g4 tp w6 w7 w8 w9 w10 w11 w12 w13 w14 g15 w16 g17 w18 w19 g20 w21 g22 g23 g24 w25 w26 w27 g28 g29 w30 g31 g32 g33 fa fo fp)) hC V ⟨(Nat.le_of_ble_eq_true rfl), (Nat.le_of_ble_eq_true rfl)⟩ ⟨bv, f72, gb72, rfl, rfl, hpre⟩ dX8_lays_132
        · skip
          have c_3 := b_nle (by omega) (by omega) c_3
          refine lv_iload_n hx hb dX8_lays_83 rfl (lv_at hl 3 rfl) ?_
          refine lv_i2l (v := (nI u).toInt64) hx hb dX8_lays_84 rfl ?_
          refine lv_iload hx hb dX8_lays_85 (lv_at hl 0 rfl) ?_
          refine g_callSU (nA := 2) hC V hl.1 (m_isIn7 l D T u k72 h_ub.1 (by omega)) w_1130 w_1131 w_9 w_1132 (by decide +kernel) rfl ⟨(Nat.le_of_ble_eq_true rfl), (Nat.le_of_ble_eq_true rfl)⟩ [] rfl rfl (Nat.le_of_ble_eq_true rfl) dX8_lays_87 ⟨(Nat.le_of_ble_eq_true rfl), (Nat.le_of_ble_eq_true rfl)⟩ rfl (fun r w1 H locs hQ V => ?_)
          rcases hQ with ⟨rfl, rfl, f_4⟩ | ⟨rfl, rfl, f_5⟩
          · have V : gW D T A s [(o, .inr (8, [.int w0, .ref g1, .ref g2, .ref g3, .ref g4, .int (nI tp), .int w6, .int w7, .int w8, .int w9, .int w10, .int w11, .int w12, .int w13, .int w14, .ref g15, .int w16, .ref g17, .int w18, .int w19, .ref g20, .int w21, .ref g22, .ref g23, .ref g24, .int w25, .int w26, .int w27, .ref g28, .ref g29, .int bv, .ref g31, .ref g32, .ref g33])), (g1, .inl (T 0, 282, .inl fa)), (g28, .inl (T 0, 7, .inl f72)), (g29, .inl (T 0, 7, .inl gb72))] H locs := V _ [] rfl rfl rfl (by decide +kernel) rfl
            show W p l e _ s m args below meth c H locs _ _ _ (F0 m 90 ls [.int (nI 1)])
            refine lv_if_eq (tgt := 96) hx hb dX8_lays_90 (by decide) (fun c => absurd (show (nI 1) = 0 from c) (by decide +kernel)) (fun _ => ?_)
            refine lv_goto (tgt := 126) hx hb dX8_lays_93 (by decide) ?_
            refine lv_iinc (v := (nI (k72 + 1))) (lv' := [(4, .int (nI (k72 + 1))), (0, .ref o), (1, .int (nI 4)), (2, .int (nI u)), (3, .int sum)]) hx hb dX8_lays_126 hl (k := 0) rfl (nI_1 _) (by decide) rfl (fun ls hl => ?_)
            refine lv_goto (tgt := 72) hx hb dX8_lays_129 (by decide) ?_
            exact ih_72 (k72 + 1) bv f72 gb72 (by omega) (by assumption) (by omega) _ _ _ V (lv_sub hl [0, 1, 2, 3, 4] rfl)
          · have V : gW D T A s [(o, .inr (8, [.int w0, .ref g1, .ref g2, .ref g3, .ref g4, .int (nI tp), .int w6, .int w7, .int w8, .int w9, .int w10, .int w11, .int w12, .int w13, .int w14, .ref g15, .int w16, .ref g17, .int w18, .int w19, .ref g20, .int w21, .ref g22, .ref g23, .ref g24, .int w25, .int w26, .int w27, .ref g28, .ref g29, .int bv, .ref g31, .ref g32, .ref g33])), (g1, .inl (T 0, 282, .inl fa)), (g28, .inl (T 0, 7, .inl f72)), (g29, .inl (T 0, 7, .inl gb72))] H locs := V _ [] rfl rfl rfl (by decide +kernel) rfl
            show W p l e _ s m args below meth c H locs _ _ _ (F0 m 90 ls [.int (nI 0)])
            refine lv_if_eq (tgt := 96) hx hb dX8_lays_90 (by decide) (fun _ => ?_) (fun c => absurd (show (nI 0) = 0 by decide +kernel) c)
            refine lv_aload_n hx hb dX8_lays_96 rfl (lv_at hl 1 rfl) ?_
            refine g_get hC V (ci := 8) uwX8 0 rfl rfl 28 (by decide) w_940 rfl rfl dX8_lays_97 ?_
            refine lv_iload_n hx hb dX8_lays_100 rfl (lv_at hl 2 rfl) ?_
            refine lv_iload hx hb dX8_lays_101 (lv_at hl 0 rfl) ?_
            refine g_iast hC V 2 rfl (vp_in_nI (by decide) (by decide)) (f' := (upd f72 4 (nI k72))) (by rw [nI_clamp (by decide)]) (ws' := [(o, .inr (8, [.int w0, .ref g1, .ref g2, .ref g3, .ref g4, .int (nI tp), .int w6, .int w7, .int w8, .int w9, .int w10, .int w11, .int w12, .int w13, .int w14, .ref g15, .int w16, .ref g17, .int w18, .int w19, .ref g20, .int w21, .ref g22, .ref g23, .ref g24, .int w25, .int w26, .int w27, .ref g28, .ref g29, .int bv, .ref g31, .ref g32, .ref g33])), (g1, .inl (T 0, 282, .inl fa)), (g28, .inl (T 0, 7, .inl (upd f72 4 (nI k72)))), (g29, .inl (T 0, 7, .inl gb72))]) rfl dX8_lays_103 (fun H locs V => ?_)
            refine lv_aload_n hx hb dX8_lays_104 rfl (lv_at hl 1 rfl) ?_
            refine lv_iload_n hx hb dX8_lays_105 rfl (lv_at hl 2 rfl) ?_
            refine lv_iconst (v := (nI 1)) hx hb dX8_lays_106 (by decide +kernel) ?_
            refine lv_iadd hx hb dX8_lays_107 ?_
            refine g_vi (y := (nI 5)) (by decide +kernel) ?_
            refine lv_iload_n hx hb dX8_lays_108 rfl (lv_at hl 3 rfl) ?_
            refine lv_iconst (v := (nI 1)) hx hb dX8_lays_109 (by decide +kernel) ?_
            refine lv_iload hx hb dX8_lays_110 (lv_at hl 0 rfl) ?_
            refine lv_ishl hx hb dX8_lays_112 ?_
            refine g_vi (y := (nI (2 ^ k72))) (shl_pow (by omega)) ?_
            refine lv_ior hx hb dX8_lays_113 ?_
            refine g_vi (y := nI (u ||| (2 ^ k72))) (or7 (by omega) (by omega)) ?_
            refine lv_iload_n hx hb dX8_lays_114 rfl (lv_at hl 4 rfl) ?_
            refine lv_aload_n hx hb dX8_lays_115 rfl (lv_at hl 1 rfl) ?_
            refine lv_iload_n hx hb dX8_lays_116 rfl (lv_at hl 2 rfl) ?_
            refine lv_iload hx hb dX8_lays_117 (lv_at hl 0 rfl) ?_
            refine g_callVU (nA := 2) hC V hl.1 (m_offBy l D T o 4 k72 w0 g1 g2 g3 g4 tp w6 w7 w8 w9 w10 w11 w12 w13 w14 g15 w16 g17 w18 w19 g20 w21 g22 g23 g24 w25 w26 w27 g28 g29 bv g31 g32 g33 fa (by first | assumption | omega) (by first | assumption | omega)) w_1328 w_1330 w_s77 w_9 w_1331 (by decide +kernel) rfl ⟨(Nat.le_of_ble_eq_true rfl), (Nat.le_of_ble_eq_true rfl)⟩ 0 (ci := 8) rfl rfl [0, 1] rfl rfl (Nat.le_of_ble_eq_true rfl) dX8_lays_119 ⟨(Nat.le_of_ble_eq_true rfl), (Nat.le_of_ble_eq_true rfl)⟩ rfl (fun r w1 H locs hQ V => ?_)
            obtain ⟨z_6, rfl, rfl⟩ := hQ
            have V : gW D T A s [(o, .inr (8, [.int w0, .ref g1, .ref g2, .ref g3, .ref g4, .int (nI tp), .int w6, .int w7, .int w8, .int w9, .int w10, .int w11, .int w12, .int w13, .int w14, .ref g15, .int w16, .ref g17, .int w18, .int w19, .ref g20, .int w21, .ref g22, .ref g23, .ref g24, .int w25, .int w26, .int w27, .ref g28, .ref g29, .int bv, .ref g31, .ref g32, .ref g33])), (g1, .inl (T 0, 282, .inl fa)), (g28, .inl (T 0, 7, .inl (upd f72 4 (nI k72)))), (g29, .inl (T 0, 7, .inl gb72))] H locs := V _ [0, 0] rfl rfl rfl (by decide +kernel) rfl
            show W p l e _ s m args below meth c H locs _ _ _ (F0 m 122 ls [.int z_6, .int sum, .int (nI (u ||| (2 ^ k72))), .int (nI 5), .ref o])
            refine lv_iadd hx hb dX8_lays_122 ?_
            refine g_callV (wr := []) (nA := 3) hC V hl.1 (m_lays5 l D T n o (u ||| (2 ^ k72)) (sum + z_6) w0 g1 g2 g3 g4 tp w6 w7 w8 w9 w10 w11 w12 w13 w14 g15 w16 g17 w18 w19 g20 w21 g22 g23 g24 w25 w26 w27 g28 g29 bv g31 g32 g33 fa (upd f72 4 (nI k72)) gb72 h_a (li_put (li_ext h_li hpre) (by omega) (ub_free (ub_ext h_ub hpre) (by assumption))) (lt_put h_lt hpre (by omega) h_7) (ub_put (ub_ext h_ub hpre) (by omega)) h_1 h_7 (by omega)) w_1320 w_1322 w_s75 w_9 w_1323 (by decide +kernel) rfl ⟨(Nat.le_of_ble_eq_true rfl), (Nat.le_of_ble_eq_true rfl)⟩ 0 (ci := 8) rfl rfl [0, 1, 2, 3] [] rfl rfl rfl rfl (by decide) (Nat.le_of_ble_eq_true rfl) dX8_lays_123 ⟨(Nat.le_of_ble_eq_true rfl), (Nat.le_of_ble_eq_true rfl)⟩ rfl (fun r w1 H locs hQ V => ?_)
            obtain ⟨bs_7, go_8, gp_9, rfl, rfl, f_10⟩ := hQ
            have V : gW D T A s [(o, .inr (8, [.int w0, .ref g1, .ref g2, .ref g3, .ref g4, .int (nI tp), .int w6, .int w7, .int w8, .int w9, .int w10, .int w11, .int w12, .int w13, .int w14, .ref g15, .int w16, .ref g17, .int w18, .int w19, .ref g20, .int w21, .ref g22, .ref g23, .ref g24, .int w25, .int w26, .int w27, .ref g28, .ref g29, .int bs_7, .ref g31, .ref g32, .ref g33])), (g1, .inl (T 0, 282, .inl fa)), (g28, .inl (T 0, 7, .inl go_8)), (g29, .inl (T 0, 7, .inl gp_9))] H locs := V
            show W p l e _ s m args below meth c H locs _ _ _ (F0 m 126 ls [])
            have hpre2 : ∀ j, j < 4 → go_8 j = fo j := fun j hj => (f_10 j (by omega)).trans ((up_other (by omega)).trans (hpre j hj))
            refine lv_iinc (v := (nI (k72 + 1))) (lv' := [(4, .int (nI (k72 + 1))), (0, .ref o), (1, .int (nI 4)), (2, .int (nI u)), (3, .int sum)]) hx hb dX8_lays_126 hl (k := 0) rfl (nI_1 _) (by decide) rfl (fun ls hl => ?_)
            refine lv_goto (tgt := 72) hx hb dX8_lays_129 (by decide) ?_
            exact ih_72 (k72 + 1) bs_7 go_8 gp_9 (by omega) (by assumption) (by omega) _ _ _ V (lv_sub hl [0, 1, 2, 3, 4] rfl)
    exact L_2 _ 0 w30 fo fp (by omega) (fun _ _ => rfl) (Nat.lt_succ_self _) _ _ _ V (lv_sub hl [0, 1, 2, 3, 4] rfl)
  · skip
    have c_1 := b_eq (by omega) (by omega) c_1
    have hkn : 4 = n := c_1
    refine lv_aload_n hx hb dX8_lays_10 rfl (lv_at hl 0 rfl) ?_
    refine g_callVU (nA := 0) hC V hl.1 (m_isOneRing l D T n o w0 g1 g2 g3 g4 tp w6 w7 w8 w9 w10 w11 w12 w13 w14 g15 w16 g17 w18 w19 g20 w21 g22 g23 g24 w25 w26 w27 g28 g29 w30 g31 g32 g33 fa fo h_a (lf_of h_li h_lt (by omega)) h_1 h_7) w_1324 w_1326 w_s76 w_9 w_1327 (by decide +kernel) rfl ⟨(Nat.le_of_ble_eq_true rfl), (Nat.le_of_ble_eq_true rfl)⟩ 0 (ci := 8) rfl rfl [0, 1, 2] rfl rfl (Nat.le_of_ble_eq_true rfl) dX8_lays_11 ⟨(Nat.le_of_ble_eq_true rfl), (Nat.le_of_ble_eq_true rfl)⟩ rfl (fun r w1 H locs hQ V => ?_)
    rcases hQ with ⟨rfl, rfl⟩ | ⟨rfl, rfl⟩
    · have V : gW D T A s [(o, .inr (8, [.int w0, .ref g1, .ref g2, .ref g3, .ref g4, .int (nI tp), .int w6, .int w7, .int w8, .int w9, .int w10, .int w11, .int w12, .int w13, .int w14, .ref g15, .int w16, .ref g17, .int w18, .int w19, .ref g20, .int w21, .ref g22, .ref g23, .ref g24, .int w25, .int w26, .int w27, .ref g28, .ref g29, .int w30, .ref g31, .ref g32, .ref g33])), (g1, .inl (T 0, 282, .inl fa)), (g28, .inl (T 0, 7, .inl fo)), (g29, .inl (T 0, 7, .inl fp))] H locs := V _ [0, 0, 0] rfl rfl rfl (by decide +kernel) rfl
      show W p l e _ s m args below meth c H locs _ _ _ (F0 m 14 ls [.int (nI 1)])
      refine lv_if_eq (tgt := 33) hx hb dX8_lays_14 (by decide) (fun c => absurd (show (nI 1) = 0 from c) (by decide +kernel)) (fun _ => ?_)
      refine lv_aload_n hx hb dX8_lays_17 rfl (lv_at hl 0 rfl) ?_
      refine g_get hC V (ci := 8) uwX8 0 rfl rfl 30 (by decide) w_942 rfl rfl dX8_lays_18 ?_
      refine lv_iconst (v := (-1)) hx hb dX8_lays_21 (by decide +kernel) ?_
      refine lv_icmp_eq (tgt := 34) hx hb dX8_lays_22 (by decide) (fun c_11 => ?_) (fun c_11 => ?_)
      · skip
        refine lv_aload_n hx hb dX8_lays_34 rfl (lv_at hl 0 rfl) ?_
        refine lv_iload_n hx hb dX8_lays_35 rfl (lv_at hl 3 rfl) ?_
        refine g_put hC V (ci := 8) uwX8 tyX8 tyX8_ok nmX8 0 rfl rfl 30 (by decide) w_942 rfl rfl rfl rfl (Nat.le_of_ble_eq_true rfl) (ws' := [(o, .inr (8, [.int w0, .ref g1, .ref g2, .ref g3, .ref g4, .int (nI tp), .int w6, .int w7, .int w8, .int w9, .int w10, .int w11, .int w12, .int w13, .int w14, .ref g15, .int w16, .ref g17, .int w18, .int w19, .ref g20, .int w21, .ref g22, .ref g23, .ref g24, .int w25, .int w26, .int w27, .ref g28, .ref g29, .int sum, .ref g31, .ref g32, .ref g33])), (g1, .inl (T 0, 282, .inl fa)), (g28, .inl (T 0, 7, .inl fo)), (g29, .inl (T 0, 7, .inl fp))]) rfl dX8_lays_36 (fun H locs V => ?_)
        refine lv_iconst (v := (nI 0)) hx hb dX8_lays_39 (by decide +kernel) ?_
        refine lv_istore (lv' := [(4, .int (nI 0)), (0, .ref o), (1, .int (nI 4)), (2, .int (nI u)), (3, .int sum)]) hx hb dX8_lays_40 hl (by decide) rfl (fun ls hl => ?_)
        have L_12 : ∀ (fu : Nat) (k42 : Nat) (gb42 : Nat → Int32), k42 ≤ 4 → 4 - k42 < fu → ∀ (H : Heap) (locs : List Loc) (ls : Array Slot), gW D T A s [(o, .inr (8, [.int w0, .ref g1, .ref g2, .ref g3, .ref g4, .int (nI tp), .int w6, .int w7, .int w8, .int w9, .int w10, .int w11, .int w12, .int w13, .int w14, .ref g15, .int w16, .ref g17, .int w18, .int w19, .ref g20, .int w21, .ref g22, .ref g23, .ref g24, .int w25, .int w26, .int w27, .ref g28, .ref g29, .int sum, .ref g31, .ref g32, .ref g33])), (g1, .inl (T 0, 282, .inl fa)), (g28, .inl (T 0, 7, .inl fo)), (g29, .inl (T 0, 7, .inl gb42))] H locs → lv_has ls 5 [(4, .int (nI k42)), (0, .ref o), (1, .int (nI 4)), (2, .int (nI u)), (3, .int sum)] → W p l e (rmD 5 0 0) s m args below meth c H locs 0 0 (MQ below (gQ D A (q_m_lays4 T n o u sum w0 g1 g2 g3 g4 tp w6 w7 w8 w9 w10 w11 w12 w13 w14 g15 w16 g17 w18 w19 g20 w21 g22 g23 g24 w25 w26 w27 g28 g29 w30 g31 g32 g33 fa fo fp)) args s 0 0 A) (F0 m 42 ls []) := by
          intro fu_42
          induction fu_42 with
          | zero => intro k42 gb42 hk42 hmu; exact absurd hmu (Nat.not_lt_zero _)
          | succ fu_42 ih_42 =>
            intro k42 gb42 hk42 hmu_42 H locs ls V hl
            refine lv_iload hx hb dX8_lays_42 (lv_at hl 0 rfl) ?_
            refine lv_iload_n hx hb dX8_lays_44 rfl (lv_at hl 2 rfl) ?_
            refine lv_icmp_ge (tgt := 68) hx hb dX8_lays_45 (by decide) (fun c_13 => ?_) (fun c_13 => ?_)
            · skip
              have c_13 := b_le (by omega) (by omega) c_13
              exact g_vret (Qr := (q_m_lays4 T n o u sum w0 g1 g2 g3 g4 tp w6 w7 w8 w9 w10 w11 w12 w13 w14 g15 w16 g17 w18 w19 g20 w21 g22 g23 g24 w25 w26 w27 g28 g29 w30 g31 g32 g33 fa fo fp)) hC V ⟨(Nat.le_of_ble_eq_true rfl), (Nat.le_of_ble_eq_true rfl)⟩ ⟨sum, fo, gb42, rfl, rfl, (fun _ _ => rfl)⟩ dX8_lays_68
            · skip
              have c_13 := b_nle (by omega) (by omega) c_13
              refine lv_aload_n hx hb dX8_lays_48 rfl (lv_at hl 1 rfl) ?_
              refine g_get hC V (ci := 8) uwX8 0 rfl rfl 29 (by decide) w_941 rfl rfl dX8_lays_49 ?_
              refine lv_iload hx hb dX8_lays_52 (lv_at hl 0 rfl) ?_
              refine lv_aload_n hx hb dX8_lays_54 rfl (lv_at hl 1 rfl) ?_
              refine g_get hC V (ci := 8) uwX8 0 rfl rfl 28 (by decide) w_940 rfl rfl dX8_lays_55 ?_
              refine lv_iload hx hb dX8_lays_58 (lv_at hl 0 rfl) ?_
              refine g_iald hC V 2 rfl (vp_in_nI (by omega) (by omega)) (v := (fo k42)) (congrArg _ (nI_clamp (by omega))) dX8_lays_60 ?_
              refine g_iast hC V 3 rfl (vp_in_nI (by omega) (by omega)) (f' := (upd gb42 k42 (fo k42))) (by rw [nI_clamp (by omega)]) (ws' := [(o, .inr (8, [.int w0, .ref g1, .ref g2, .ref g3, .ref g4, .int (nI tp), .int w6, .int w7, .int w8, .int w9, .int w10, .int w11, .int w12, .int w13, .int w14, .ref g15, .int w16, .ref g17, .int w18, .int w19, .ref g20, .int w21, .ref g22, .ref g23, .ref g24, .int w25, .int w26, .int w27, .ref g28, .ref g29, .int sum, .ref g31, .ref g32, .ref g33])), (g1, .inl (T 0, 282, .inl fa)), (g28, .inl (T 0, 7, .inl fo)), (g29, .inl (T 0, 7, .inl (upd gb42 k42 (fo k42))))]) rfl dX8_lays_61 (fun H locs V => ?_)
              refine lv_iinc (v := (nI (k42 + 1))) (lv' := [(4, .int (nI (k42 + 1))), (0, .ref o), (1, .int (nI 4)), (2, .int (nI u)), (3, .int sum)]) hx hb dX8_lays_62 hl (k := 0) rfl (nI_1 _) (by decide) rfl (fun ls hl => ?_)
              refine lv_goto (tgt := 42) hx hb dX8_lays_65 (by decide) ?_
              exact ih_42 (k42 + 1) (upd gb42 k42 (fo k42)) (by omega) (by omega) _ _ _ V (lv_sub hl [0, 1, 2, 3, 4] rfl)
        exact L_12 _ 0 fp (by omega) (Nat.lt_succ_self _) _ _ _ V (lv_sub hl [0, 1, 2, 3, 4] rfl)
      · skip
        refine lv_iload_n hx hb dX8_lays_25 rfl (lv_at hl 3 rfl) ?_
        refine lv_aload_n hx hb dX8_lays_26 rfl (lv_at hl 0 rfl) ?_
        refine g_get hC V (ci := 8) uwX8 0 rfl rfl 30 (by decide) w_942 rfl rfl dX8_lays_27 ?_
        refine lv_icmp_lt (tgt := 34) hx hb dX8_lays_30 (by decide) (fun c_14 => ?_) (fun c_14 => ?_)
        · skip
          refine lv_aload_n hx hb dX8_lays_34 rfl (lv_at hl 0 rfl) ?_
          refine lv_iload_n hx hb dX8_lays_35 rfl (lv_at hl 3 rfl) ?_
          refine g_put hC V (ci := 8) uwX8 tyX8 tyX8_ok nmX8 0 rfl rfl 30 (by decide) w_942 rfl rfl rfl rfl (Nat.le_of_ble_eq_true rfl) (ws' := [(o, .inr (8, [.int w0, .ref g1, .ref g2, .ref g3, .ref g4, .int (nI tp), .int w6, .int w7, .int w8, .int w9, .int w10, .int w11, .int w12, .int w13, .int w14, .ref g15, .int w16, .ref g17, .int w18, .int w19, .ref g20, .int w21, .ref g22, .ref g23, .ref g24, .int w25, .int w26, .int w27, .ref g28, .ref g29, .int sum, .ref g31, .ref g32, .ref g33])), (g1, .inl (T 0, 282, .inl fa)), (g28, .inl (T 0, 7, .inl fo)), (g29, .inl (T 0, 7, .inl fp))]) rfl dX8_lays_36 (fun H locs V => ?_)
          refine lv_iconst (v := (nI 0)) hx hb dX8_lays_39 (by decide +kernel) ?_
          refine lv_istore (lv' := [(4, .int (nI 0)), (0, .ref o), (1, .int (nI 4)), (2, .int (nI u)), (3, .int sum)]) hx hb dX8_lays_40 hl (by decide) rfl (fun ls hl => ?_)
          have L_15 : ∀ (fu : Nat) (k42 : Nat) (gb42 : Nat → Int32), k42 ≤ 4 → 4 - k42 < fu → ∀ (H : Heap) (locs : List Loc) (ls : Array Slot), gW D T A s [(o, .inr (8, [.int w0, .ref g1, .ref g2, .ref g3, .ref g4, .int (nI tp), .int w6, .int w7, .int w8, .int w9, .int w10, .int w11, .int w12, .int w13, .int w14, .ref g15, .int w16, .ref g17, .int w18, .int w19, .ref g20, .int w21, .ref g22, .ref g23, .ref g24, .int w25, .int w26, .int w27, .ref g28, .ref g29, .int sum, .ref g31, .ref g32, .ref g33])), (g1, .inl (T 0, 282, .inl fa)), (g28, .inl (T 0, 7, .inl fo)), (g29, .inl (T 0, 7, .inl gb42))] H locs → lv_has ls 5 [(4, .int (nI k42)), (0, .ref o), (1, .int (nI 4)), (2, .int (nI u)), (3, .int sum)] → W p l e (rmD 5 0 0) s m args below meth c H locs 0 0 (MQ below (gQ D A (q_m_lays4 T n o u sum w0 g1 g2 g3 g4 tp w6 w7 w8 w9 w10 w11 w12 w13 w14 g15 w16 g17 w18 w19 g20 w21 g22 g23 g24 w25 w26 w27 g28 g29 w30 g31 g32 g33 fa fo fp)) args s 0 0 A) (F0 m 42 ls []) := by
            intro fu_42
            induction fu_42 with
            | zero => intro k42 gb42 hk42 hmu; exact absurd hmu (Nat.not_lt_zero _)
            | succ fu_42 ih_42 =>
              intro k42 gb42 hk42 hmu_42 H locs ls V hl
              refine lv_iload hx hb dX8_lays_42 (lv_at hl 0 rfl) ?_
              refine lv_iload_n hx hb dX8_lays_44 rfl (lv_at hl 2 rfl) ?_
              refine lv_icmp_ge (tgt := 68) hx hb dX8_lays_45 (by decide) (fun c_16 => ?_) (fun c_16 => ?_)
              · skip
                have c_16 := b_le (by omega) (by omega) c_16
                exact g_vret (Qr := (q_m_lays4 T n o u sum w0 g1 g2 g3 g4 tp w6 w7 w8 w9 w10 w11 w12 w13 w14 g15 w16 g17 w18 w19 g20 w21 g22 g23 g24 w25 w26 w27 g28 g29 w30 g31 g32 g33 fa fo fp)) hC V ⟨(Nat.le_of_ble_eq_true rfl), (Nat.le_of_ble_eq_true rfl)⟩ ⟨sum, fo, gb42, rfl, rfl, (fun _ _ => rfl)⟩ dX8_lays_68
              · skip
                have c_16 := b_nle (by omega) (by omega) c_16
                refine lv_aload_n hx hb dX8_lays_48 rfl (lv_at hl 1 rfl) ?_
                refine g_get hC V (ci := 8) uwX8 0 rfl rfl 29 (by decide) w_941 rfl rfl dX8_lays_49 ?_
                refine lv_iload hx hb dX8_lays_52 (lv_at hl 0 rfl) ?_
                refine lv_aload_n hx hb dX8_lays_54 rfl (lv_at hl 1 rfl) ?_
                refine g_get hC V (ci := 8) uwX8 0 rfl rfl 28 (by decide) w_940 rfl rfl dX8_lays_55 ?_
                refine lv_iload hx hb dX8_lays_58 (lv_at hl 0 rfl) ?_
                refine g_iald hC V 2 rfl (vp_in_nI (by omega) (by omega)) (v := (fo k42)) (congrArg _ (nI_clamp (by omega))) dX8_lays_60 ?_
                refine g_iast hC V 3 rfl (vp_in_nI (by omega) (by omega)) (f' := (upd gb42 k42 (fo k42))) (by rw [nI_clamp (by omega)]) (ws' := [(o, .inr (8, [.int w0, .ref g1, .ref g2, .ref g3, .ref g4, .int (nI tp), .int w6, .int w7, .int w8, .int w9, .int w10, .int w11, .int w12, .int w13, .int w14, .ref g15, .int w16, .ref g17, .int w18, .int w19, .ref g20, .int w21, .ref g22, .ref g23, .ref g24, .int w25, .int w26, .int w27, .ref g28, .ref g29, .int sum, .ref g31, .ref g32, .ref g33])), (g1, .inl (T 0, 282, .inl fa)), (g28, .inl (T 0, 7, .inl fo)), (g29, .inl (T 0, 7, .inl (upd gb42 k42 (fo k42))))]) rfl dX8_lays_61 (fun H locs V => ?_)
                refine lv_iinc (v := (nI (k42 + 1))) (lv' := [(4, .int (nI (k42 + 1))), (0, .ref o), (1, .int (nI 4)), (2, .int (nI u)), (3, .int sum)]) hx hb dX8_lays_62 hl (k := 0) rfl (nI_1 _) (by decide) rfl (fun ls hl => ?_)
                refine lv_goto (tgt := 42) hx hb dX8_lays_65 (by decide) ?_
                exact ih_42 (k42 + 1) (upd gb42 k42 (fo k42)) (by omega) (by omega) _ _ _ V (lv_sub hl [0, 1, 2, 3, 4] rfl)
          exact L_15 _ 0 fp (by omega) (Nat.lt_succ_self _) _ _ _ V (lv_sub hl [0, 1, 2, 3, 4] rfl)
        · skip
          exact g_vret (Qr := (q_m_lays4 T n o u sum w0 g1 g2 g3 g4 tp w6 w7 w8 w9 w10 w11 w12 w13 w14 g15 w16 g17 w18 w19 g20 w21 g22 g23 g24 w25 w26 w27 g28 g29 w30 g31 g32 g33 fa fo fp)) hC V ⟨(Nat.le_of_ble_eq_true rfl), (Nat.le_of_ble_eq_true rfl)⟩ ⟨w30, fo, fp, rfl, rfl, (fun _ _ => rfl)⟩ dX8_lays_33
    · have V : gW D T A s [(o, .inr (8, [.int w0, .ref g1, .ref g2, .ref g3, .ref g4, .int (nI tp), .int w6, .int w7, .int w8, .int w9, .int w10, .int w11, .int w12, .int w13, .int w14, .ref g15, .int w16, .ref g17, .int w18, .int w19, .ref g20, .int w21, .ref g22, .ref g23, .ref g24, .int w25, .int w26, .int w27, .ref g28, .ref g29, .int w30, .ref g31, .ref g32, .ref g33])), (g1, .inl (T 0, 282, .inl fa)), (g28, .inl (T 0, 7, .inl fo)), (g29, .inl (T 0, 7, .inl fp))] H locs := V _ [0, 0, 0] rfl rfl rfl (by decide +kernel) rfl
      show W p l e _ s m args below meth c H locs _ _ _ (F0 m 14 ls [.int (nI 0)])
      refine lv_if_eq (tgt := 33) hx hb dX8_lays_14 (by decide) (fun _ => ?_) (fun c => absurd (show (nI 0) = 0 by decide +kernel) c)
      exact g_vret (Qr := (q_m_lays4 T n o u sum w0 g1 g2 g3 g4 tp w6 w7 w8 w9 w10 w11 w12 w13 w14 g15 w16 g17 w18 w19 g20 w21 g22 g23 g24 w25 w26 w27 g28 g29 w30 g31 g32 g33 fa fo fp)) hC V ⟨(Nat.le_of_ble_eq_true rfl), (Nat.le_of_ble_eq_true rfl)⟩ ⟨w30, fo, fp, rfl, rfl, (fun _ _ => rfl)⟩ dX8_lays_33

def q_m_lays3 (T : Nat → ClassId) (n : Nat) (o : Nat) (u : Nat) (sum : Int32) (w0 : Int32) (g1 : Nat) (g2 : Nat) (g3 : Nat) (g4 : Nat) (tp : Nat) (w6 : Int32) (w7 : Int32) (w8 : Int32) (w9 : Int32) (w10 : Int32) (w11 : Int32) (w12 : Int32) (w13 : Int32) (w14 : Int32) (g15 : Nat) (w16 : Int32) (g17 : Nat) (w18 : Int32) (w19 : Int32) (g20 : Nat) (w21 : Int32) (g22 : Nat) (g23 : Nat) (g24 : Nat) (w25 : Int32) (w26 : Int32) (w27 : Int32) (g28 : Nat) (g29 : Nat) (w30 : Int32) (g31 : Nat) (g32 : Nat) (g33 : Nat) (fa : Nat → Int32) (fo : Nat → Int32) (fp : Nat → Int32) : Option Value → va_W → Prop := fun rr ww => (∃ (bs : Int32) (go : Nat → Int32) (gp : Nat → Int32), rr = none ∧ ww = [(o, .inr (8, [.int w0, .ref g1, .ref g2, .ref g3, .ref g4, .int (nI tp), .int w6, .int w7, .int w8, .int w9, .int w10, .int w11, .int w12, .int w13, .int w14, .ref g15, .int w16, .ref g17, .int w18, .int w19, .ref g20, .int w21, .ref g22, .ref g23, .ref g24, .int w25, .int w26, .int w27, .ref g28, .ref g29, .int bs, .ref g31, .ref g32, .ref g33])), (g1, .inl (T 0, 282, .inl fa)), (g28, .inl (T 0, 7, .inl go)), (g29, .inl (T 0, 7, .inl gp))] ∧ (∀ j, j < 3 → go j = fo j))
set_option maxHeartbeats 4000000 in
set_option maxRecDepth 100000 in
theorem m_lays3 (l : Launch) (D : va_G) (T : Nat → ClassId) (n : Nat) (o : Nat) (u : Nat) (sum : Int32) (w0 : Int32) (g1 : Nat) (g2 : Nat) (g3 : Nat) (g4 : Nat) (tp : Nat) (w6 : Int32) (w7 : Int32) (w8 : Int32) (w9 : Int32) (w10 : Int32) (w11 : Int32) (w12 : Int32) (w13 : Int32) (w14 : Int32) (g15 : Nat) (w16 : Int32) (g17 : Nat) (w18 : Int32) (w19 : Int32) (g20 : Nat) (w21 : Int32) (g22 : Nat) (g23 : Nat) (g24 : Nat) (w25 : Int32) (w26 : Int32) (w27 : Int32) (g28 : Nat) (g29 : Nat) (w30 : Int32) (g31 : Nat) (g32 : Nat) (g33 : Nat) (fa : Nat → Int32) (fo : Nat → Int32) (fp : Nat → Int32) (h_a : MI n fa) (h_li : LI 3 fo) (h_lt : ∀ j, j < 3 → toF fo j < n) (h_ub : UB 3 u fo) (h_1 : 1 ≤ n) (h_7 : n ≤ 7) (h_kn : 3 ≤ n) : Ct l yX8_lays cX8_lays 5 none 6 0 0 D T [.ref o, .int (nI 3), .int (nI u), .int sum] [(o, .inr (8, [.int w0, .ref g1, .ref g2, .ref g3, .ref g4, .int (nI tp), .int w6, .int w7, .int w8, .int w9, .int w10, .int w11, .int w12, .int w13, .int w14, .ref g15, .int w16, .ref g17, .int w18, .int w19, .ref g20, .int w21, .ref g22, .ref g23, .ref g24, .int w25, .int w26, .int w27, .ref g28, .ref g29, .int w30, .ref g31, .ref g32, .ref g33])), (g1, .inl (T 0, 282, .inl fa)), (g28, .inl (T 0, 7, .inl fo)), (g29, .inl (T 0, 7, .inl fp))] (q_m_lays3 T n o u sum w0 g1 g2 g3 g4 tp w6 w7 w8 w9 w10 w11 w12 w13 w14 g15 w16 g17 w18 w19 g20 w21 g22 g23 g24 w25 w26 w27 g28 g29 w30 g31 g32 g33 fa fo fp) := by
  refine Ct.of (cc := cX8_lays) (maxL := 5) (ret := none) (by decide) (Nat.le_of_ble_eq_true rfl) ?_
  intro p e s m args below meth c A ls hC hnm V hl
  obtain ⟨hx, hb, hr, hml, hown, hts, hlocks⟩ := id hC
  generalize hH : s.heap = H at V ⊢
  clear hH
  have hl : lv_has ls 5 [(0, .ref o), (1, .int (nI 3)), (2, .int (nI u)), (3, .int sum)] := hl
  generalize hlo : ([] : List Loc) = locs at V ⊢
  clear hlo
  have ms0 := ms_rf h_a
  have hn10 := h_a.1
  have hu := h_ub.1
  refine lv_iload_n hx hb dX8_lays_0 rfl (lv_at hl 1 rfl) ?_
  refine lv_aload_n hx hb dX8_lays_1 rfl (lv_at hl 0 rfl) ?_
  refine g_get hC V (ci := 8) uwX8 0 rfl rfl 1 (by decide) w_913 rfl rfl dX8_lays_2 ?_
  refine lv_iconst (v := (nI 0)) hx hb dX8_lays_5 (by decide +kernel) ?_
  refine g_iald hC V 1 rfl (vp_in_nI (by decide) (by decide)) (v := (nI n)) (by rw [nI_clamp (by decide)]; first | rfl | exact h_a.2.1) dX8_lays_6 ?_
  refine lv_icmp_ne (tgt := 69) hx hb dX8_lays_7 (by decide) (fun c_1 => ?_) (fun c_1 => ?_)
  · skip
    have c_1 := b_ne (by omega) (by omega) c_1
    refine lv_iconst (v := (nI 0)) hx hb dX8_lays_69 (by decide +kernel) ?_
    refine lv_istore (lv' := [(4, .int (nI 0)), (0, .ref o), (1, .int (nI 3)), (2, .int (nI u)), (3, .int sum)]) hx hb dX8_lays_70 hl (by decide) rfl (fun ls hl => ?_)
    have L_2 : ∀ (fu : Nat) (k72 : Nat) (bv : Int32) (f72 : Nat → Int32) (gb72 : Nat → Int32), k72 ≤ n → (∀ j, j < 3 → f72 j = fo j) → n - k72 < fu → ∀ (H : Heap) (locs : List Loc) (ls : Array Slot), gW D T A s [(o, .inr (8, [.int w0, .ref g1, .ref g2, .ref g3, .ref g4, .int (nI tp), .int w6, .int w7, .int w8, .int w9, .int w10, .int w11, .int w12, .int w13, .int w14, .ref g15, .int w16, .ref g17, .int w18, .int w19, .ref g20, .int w21, .ref g22, .ref g23, .ref g24, .int w25, .int w26, .int w27, .ref g28, .ref g29, .int bv, .ref g31, .ref g32, .ref g33])), (g1, .inl (T 0, 282, .inl fa)), (g28, .inl (T 0, 7, .inl f72)), (g29, .inl (T 0, 7, .inl gb72))] H locs → lv_has ls 5 [(4, .int (nI k72)), (0, .ref o), (1, .int (nI 3)), (2, .int (nI u)), (3, .int sum)] → W p l e (rmD 6 0 0) s m args below meth c H locs 0 0 (MQ below (gQ D A (q_m_lays3 T n o u sum w0 g1 g2 g3 g4 tp w6 w7 w8 w9 w10 w11 w12 w13 w14 g15 w16 g17 w18 w19 g20 w21 g22 g23 g24 w25 w26 w27 g28 g29 w30 g31 g32 g33 fa fo fp)) args s 0 0 A) (F0 m 72 ls []) := by
      intro fu_72
      induction fu_72 with
      | zero => intro k72 bv f72 gb72 hk72 hpre hmu; exact absurd hmu (Nat.not_lt_zero _)
      | succ fu_72 ih_72 =>
        intro k72 bv f72 gb72 hk72 hpre hmu_72 H locs ls V hl
        refine lv_iload hx hb dX8_lays_72 (lv_at hl 0 rfl) ?_
        refine lv_aload_n hx hb dX8_lays_74 rfl (lv_at hl 1 rfl) ?_
        refine g_get hC V (ci := 8) uwX8 0 rfl rfl 1 (by decide) w_913 rfl rfl dX8_lays_75 ?_
        refine lv_iconst (v := (nI 0)) hx hb dX8_lays_78 (by decide +kernel) ?_
        refine g_iald hC V 1 rfl (vp_in_nI (by decide) (by decide)) (v := (nI n)) (by rw [nI_clamp (by decide)]; first | rfl | exact h_a.2.1) dX8_lays_79 ?_
        refine lv_icmp_ge (tgt := 132) hx hb dX8_lays_80 (by decide) (fun c_3 => ?_) (fun c_3 => ?_)
        · skip
          have c_3 := b_le (by omega) (by omega) c_3
          exact g_vret (Qr := (q_m_lays3 T n o u sum w0 g1 g2 g3 g4 tp w6 w7 w8 w9 w10 w11 w12 w13 w14 g15 w16 g17 w18 w19 g20 w21 g22 g23 g24 w25 w26 w27 g28 g29 w30 g31 g32 g33 fa fo fp)) hC V ⟨(Nat.le_of_ble_eq_true rfl), (Nat.le_of_ble_eq_true rfl)⟩ ⟨bv, f72, gb72, rfl, rfl, hpre⟩ dX8_lays_132
        · skip
          have c_3 := b_nle (by omega) (by omega) c_3
          refine lv_iload_n hx hb dX8_lays_83 rfl (lv_at hl 3 rfl) ?_
          refine lv_i2l (v := (nI u).toInt64) hx hb dX8_lays_84 rfl ?_
          refine lv_iload hx hb dX8_lays_85 (lv_at hl 0 rfl) ?_
          refine g_callSU (nA := 2) hC V hl.1 (m_isIn7 l D T u k72 h_ub.1 (by omega)) w_1130 w_1131 w_9 w_1132 (by decide +kernel) rfl ⟨(Nat.le_of_ble_eq_true rfl), (Nat.le_of_ble_eq_true rfl)⟩ [] rfl rfl (Nat.le_of_ble_eq_true rfl) dX8_lays_87 ⟨(Nat.le_of_ble_eq_true rfl), (Nat.le_of_ble_eq_true rfl)⟩ rfl (fun r w1 H locs hQ V => ?_)
          rcases hQ with ⟨rfl, rfl, f_4⟩ | ⟨rfl, rfl, f_5⟩
          · have V : gW D T A s [(o, .inr (8, [.int w0, .ref g1, .ref g2, .ref g3, .ref g4, .int (nI tp), .int w6, .int w7, .int w8, .int w9, .int w10, .int w11, .int w12, .int w13, .int w14, .ref g15, .int w16, .ref g17, .int w18, .int w19, .ref g20, .int w21, .ref g22, .ref g23, .ref g24, .int w25, .int w26, .int w27, .ref g28, .ref g29, .int bv, .ref g31, .ref g32, .ref g33])), (g1, .inl (T 0, 282, .inl fa)), (g28, .inl (T 0, 7, .inl f72)), (g29, .inl (T 0, 7, .inl gb72))] H locs := V _ [] rfl rfl rfl (by decide +kernel) rfl
            show W p l e _ s m args below meth c H locs _ _ _ (F0 m 90 ls [.int (nI 1)])
            refine lv_if_eq (tgt := 96) hx hb dX8_lays_90 (by decide) (fun c => absurd (show (nI 1) = 0 from c) (by decide +kernel)) (fun _ => ?_)
            refine lv_goto (tgt := 126) hx hb dX8_lays_93 (by decide) ?_
            refine lv_iinc (v := (nI (k72 + 1))) (lv' := [(4, .int (nI (k72 + 1))), (0, .ref o), (1, .int (nI 3)), (2, .int (nI u)), (3, .int sum)]) hx hb dX8_lays_126 hl (k := 0) rfl (nI_1 _) (by decide) rfl (fun ls hl => ?_)
            refine lv_goto (tgt := 72) hx hb dX8_lays_129 (by decide) ?_
            exact ih_72 (k72 + 1) bv f72 gb72 (by omega) (by assumption) (by omega) _ _ _ V (lv_sub hl [0, 1, 2, 3, 4] rfl)
          · have V : gW D T A s [(o, .inr (8, [.int w0, .ref g1, .ref g2, .ref g3, .ref g4, .int (nI tp), .int w6, .int w7, .int w8, .int w9, .int w10, .int w11, .int w12, .int w13, .int w14, .ref g15, .int w16, .ref g17, .int w18, .int w19, .ref g20, .int w21, .ref g22, .ref g23, .ref g24, .int w25, .int w26, .int w27, .ref g28, .ref g29, .int bv, .ref g31, .ref g32, .ref g33])), (g1, .inl (T 0, 282, .inl fa)), (g28, .inl (T 0, 7, .inl f72)), (g29, .inl (T 0, 7, .inl gb72))] H locs := V _ [] rfl rfl rfl (by decide +kernel) rfl
            show W p l e _ s m args below meth c H locs _ _ _ (F0 m 90 ls [.int (nI 0)])
            refine lv_if_eq (tgt := 96) hx hb dX8_lays_90 (by decide) (fun _ => ?_) (fun c => absurd (show (nI 0) = 0 by decide +kernel) c)
            refine lv_aload_n hx hb dX8_lays_96 rfl (lv_at hl 1 rfl) ?_
            refine g_get hC V (ci := 8) uwX8 0 rfl rfl 28 (by decide) w_940 rfl rfl dX8_lays_97 ?_
            refine lv_iload_n hx hb dX8_lays_100 rfl (lv_at hl 2 rfl) ?_
            refine lv_iload hx hb dX8_lays_101 (lv_at hl 0 rfl) ?_
            refine g_iast hC V 2 rfl (vp_in_nI (by decide) (by decide)) (f' := (upd f72 3 (nI k72))) (by rw [nI_clamp (by decide)]) (ws' := [(o, .inr (8, [.int w0, .ref g1, .ref g2, .ref g3, .ref g4, .int (nI tp), .int w6, .int w7, .int w8, .int w9, .int w10, .int w11, .int w12, .int w13, .int w14, .ref g15, .int w16, .ref g17, .int w18, .int w19, .ref g20, .int w21, .ref g22, .ref g23, .ref g24, .int w25, .int w26, .int w27, .ref g28, .ref g29, .int bv, .ref g31, .ref g32, .ref g33])), (g1, .inl (T 0, 282, .inl fa)), (g28, .inl (T 0, 7, .inl (upd f72 3 (nI k72)))), (g29, .inl (T 0, 7, .inl gb72))]) rfl dX8_lays_103 (fun H locs V => ?_)
            refine lv_aload_n hx hb dX8_lays_104 rfl (lv_at hl 1 rfl) ?_
            refine lv_iload_n hx hb dX8_lays_105 rfl (lv_at hl 2 rfl) ?_
            refine lv_iconst (v := (nI 1)) hx hb dX8_lays_106 (by decide +kernel) ?_
            refine lv_iadd hx hb dX8_lays_107 ?_
            refine g_vi (y := (nI 4)) (by decide +kernel) ?_
            refine lv_iload_n hx hb dX8_lays_108 rfl (lv_at hl 3 rfl) ?_
            refine lv_iconst (v := (nI 1)) hx hb dX8_lays_109 (by decide +kernel) ?_
            refine lv_iload hx hb dX8_lays_110 (lv_at hl 0 rfl) ?_
            refine lv_ishl hx hb dX8_lays_112 ?_
            refine g_vi (y := (nI (2 ^ k72))) (shl_pow (by omega)) ?_
            refine lv_ior hx hb dX8_lays_113 ?_
            refine g_vi (y := nI (u ||| (2 ^ k72))) (or7 (by omega) (by omega)) ?_
            refine lv_iload_n hx hb dX8_lays_114 rfl (lv_at hl 4 rfl) ?_
            refine lv_aload_n hx hb dX8_lays_115 rfl (lv_at hl 1 rfl) ?_
            refine lv_iload_n hx hb dX8_lays_116 rfl (lv_at hl 2 rfl) ?_
            refine lv_iload hx hb dX8_lays_117 (lv_at hl 0 rfl) ?_
            refine g_callVU (nA := 2) hC V hl.1 (m_offBy l D T o 3 k72 w0 g1 g2 g3 g4 tp w6 w7 w8 w9 w10 w11 w12 w13 w14 g15 w16 g17 w18 w19 g20 w21 g22 g23 g24 w25 w26 w27 g28 g29 bv g31 g32 g33 fa (by first | assumption | omega) (by first | assumption | omega)) w_1328 w_1330 w_s77 w_9 w_1331 (by decide +kernel) rfl ⟨(Nat.le_of_ble_eq_true rfl), (Nat.le_of_ble_eq_true rfl)⟩ 0 (ci := 8) rfl rfl [0, 1] rfl rfl (Nat.le_of_ble_eq_true rfl) dX8_lays_119 ⟨(Nat.le_of_ble_eq_true rfl), (Nat.le_of_ble_eq_true rfl)⟩ rfl (fun r w1 H locs hQ V => ?_)
            obtain ⟨z_6, rfl, rfl⟩ := hQ
            have V : gW D T A s [(o, .inr (8, [.int w0, .ref g1, .ref g2, .ref g3, .ref g4, .int (nI tp), .int w6, .int w7, .int w8, .int w9, .int w10, .int w11, .int w12, .int w13, .int w14, .ref g15, .int w16, .ref g17, .int w18, .int w19, .ref g20, .int w21, .ref g22, .ref g23, .ref g24, .int w25, .int w26, .int w27, .ref g28, .ref g29, .int bv, .ref g31, .ref g32, .ref g33])), (g1, .inl (T 0, 282, .inl fa)), (g28, .inl (T 0, 7, .inl (upd f72 3 (nI k72)))), (g29, .inl (T 0, 7, .inl gb72))] H locs := V _ [0, 0] rfl rfl rfl (by decide +kernel) rfl
            show W p l e _ s m args below meth c H locs _ _ _ (F0 m 122 ls [.int z_6, .int sum, .int (nI (u ||| (2 ^ k72))), .int (nI 4), .ref o])
            refine lv_iadd hx hb dX8_lays_122 ?_
            refine g_callV (wr := []) (nA := 3) hC V hl.1 (m_lays4 l D T n o (u ||| (2 ^ k72)) (sum + z_6) w0 g1 g2 g3 g4 tp w6 w7 w8 w9 w10 w11 w12 w13 w14 g15 w16 g17 w18 w19 g20 w21 g22 g23 g24 w25 w26 w27 g28 g29 bv g31 g32 g33 fa (upd f72 3 (nI k72)) gb72 h_a (li_put (li_ext h_li hpre) (by omega) (ub_free (ub_ext h_ub hpre) (by assumption))) (lt_put h_lt hpre (by omega) h_7) (ub_put (ub_ext h_ub hpre) (by omega)) h_1 h_7 (by omega)) w_1320 w_1322 w_s75 w_9 w_1323 (by decide +kernel) rfl ⟨(Nat.le_of_ble_eq_true rfl), (Nat.le_of_ble_eq_true rfl)⟩ 0 (ci := 8) rfl rfl [0, 1, 2, 3] [] rfl rfl rfl rfl (by decide) (Nat.le_of_ble_eq_true rfl) dX8_lays_123 ⟨(Nat.le_of_ble_eq_true rfl), (Nat.le_of_ble_eq_true rfl)⟩ rfl (fun r w1 H locs hQ V => ?_)
            obtain ⟨bs_7, go_8, gp_9, rfl, rfl, f_10⟩ := hQ
            have V : gW D T A s [(o, .inr (8, [.int w0, .ref g1, .ref g2, .ref g3, .ref g4, .int (nI tp), .int w6, .int w7, .int w8, .int w9, .int w10, .int w11, .int w12, .int w13, .int w14, .ref g15, .int w16, .ref g17, .int w18, .int w19, .ref g20, .int w21, .ref g22, .ref g23, .ref g24, .int w25, .int w26, .int w27, .ref g28, .ref g29, .int bs_7, .ref g31, .ref g32, .ref g33])), (g1, .inl (T 0, 282, .inl fa)), (g28, .inl (T 0, 7, .inl go_8)), (g29, .inl (T 0, 7, .inl gp_9))] H locs := V
            show W p l e _ s m args below meth c H locs _ _ _ (F0 m 126 ls [])
            have hpre2 : ∀ j, j < 3 → go_8 j = fo j := fun j hj => (f_10 j (by omega)).trans ((up_other (by omega)).trans (hpre j hj))
            refine lv_iinc (v := (nI (k72 + 1))) (lv' := [(4, .int (nI (k72 + 1))), (0, .ref o), (1, .int (nI 3)), (2, .int (nI u)), (3, .int sum)]) hx hb dX8_lays_126 hl (k := 0) rfl (nI_1 _) (by decide) rfl (fun ls hl => ?_)
            refine lv_goto (tgt := 72) hx hb dX8_lays_129 (by decide) ?_
            exact ih_72 (k72 + 1) bs_7 go_8 gp_9 (by omega) (by assumption) (by omega) _ _ _ V (lv_sub hl [0, 1, 2, 3, 4] rfl)
    exact L_2 _ 0 w30 fo fp (by omega) (fun _ _ => rfl) (Nat.lt_succ_self _) _ _ _ V (lv_sub hl [0, 1, 2, 3, 4] rfl)
  · skip
    have c_1 := b_eq (by omega) (by omega) c_1
    have hkn : 3 = n := c_1
    refine lv_aload_n hx hb dX8_lays_10 rfl (lv_at hl 0 rfl) ?_
    refine g_callVU (nA := 0) hC V hl.1 (m_isOneRing l D T n o w0 g1 g2 g3 g4 tp w6 w7 w8 w9 w10 w11 w12 w13 w14 g15 w16 g17 w18 w19 g20 w21 g22 g23 g24 w25 w26 w27 g28 g29 w30 g31 g32 g33 fa fo h_a (lf_of h_li h_lt (by omega)) h_1 h_7) w_1324 w_1326 w_s76 w_9 w_1327 (by decide +kernel) rfl ⟨(Nat.le_of_ble_eq_true rfl), (Nat.le_of_ble_eq_true rfl)⟩ 0 (ci := 8) rfl rfl [0, 1, 2] rfl rfl (Nat.le_of_ble_eq_true rfl) dX8_lays_11 ⟨(Nat.le_of_ble_eq_true rfl), (Nat.le_of_ble_eq_true rfl)⟩ rfl (fun r w1 H locs hQ V => ?_)
    rcases hQ with ⟨rfl, rfl⟩ | ⟨rfl, rfl⟩
    · have V : gW D T A s [(o, .inr (8, [.int w0, .ref g1, .ref g2, .ref g3, .ref g4, .int (nI tp), .int w6, .int w7, .int w8, .int w9, .int w10, .int w11, .int w12, .int w13, .int w14, .ref g15, .int w16, .ref g17, .int w18, .int w19, .ref g20, .int w21, .ref g22, .ref g23, .ref g24, .int w25, .int w26, .int w27, .ref g28, .ref g29, .int w30, .ref g31, .ref g32, .ref g33])), (g1, .inl (T 0, 282, .inl fa)), (g28, .inl (T 0, 7, .inl fo)), (g29, .inl (T 0, 7, .inl fp))] H locs := V _ [0, 0, 0] rfl rfl rfl (by decide +kernel) rfl
      show W p l e _ s m args below meth c H locs _ _ _ (F0 m 14 ls [.int (nI 1)])
      refine lv_if_eq (tgt := 33) hx hb dX8_lays_14 (by decide) (fun c => absurd (show (nI 1) = 0 from c) (by decide +kernel)) (fun _ => ?_)
      refine lv_aload_n hx hb dX8_lays_17 rfl (lv_at hl 0 rfl) ?_
      refine g_get hC V (ci := 8) uwX8 0 rfl rfl 30 (by decide) w_942 rfl rfl dX8_lays_18 ?_
      refine lv_iconst (v := (-1)) hx hb dX8_lays_21 (by decide +kernel) ?_
      refine lv_icmp_eq (tgt := 34) hx hb dX8_lays_22 (by decide) (fun c_11 => ?_) (fun c_11 => ?_)
      · skip
        refine lv_aload_n hx hb dX8_lays_34 rfl (lv_at hl 0 rfl) ?_
        refine lv_iload_n hx hb dX8_lays_35 rfl (lv_at hl 3 rfl) ?_
        refine g_put hC V (ci := 8) uwX8 tyX8 tyX8_ok nmX8 0 rfl rfl 30 (by decide) w_942 rfl rfl rfl rfl (Nat.le_of_ble_eq_true rfl) (ws' := [(o, .inr (8, [.int w0, .ref g1, .ref g2, .ref g3, .ref g4, .int (nI tp), .int w6, .int w7, .int w8, .int w9, .int w10, .int w11, .int w12, .int w13, .int w14, .ref g15, .int w16, .ref g17, .int w18, .int w19, .ref g20, .int w21, .ref g22, .ref g23, .ref g24, .int w25, .int w26, .int w27, .ref g28, .ref g29, .int sum, .ref g31, .ref g32, .ref g33])), (g1, .inl (T 0, 282, .inl fa)), (g28, .inl (T 0, 7, .inl fo)), (g29, .inl (T 0, 7, .inl fp))]) rfl dX8_lays_36 (fun H locs V => ?_)
        refine lv_iconst (v := (nI 0)) hx hb dX8_lays_39 (by decide +kernel) ?_
        refine lv_istore (lv' := [(4, .int (nI 0)), (0, .ref o), (1, .int (nI 3)), (2, .int (nI u)), (3, .int sum)]) hx hb dX8_lays_40 hl (by decide) rfl (fun ls hl => ?_)
        have L_12 : ∀ (fu : Nat) (k42 : Nat) (gb42 : Nat → Int32), k42 ≤ 3 → 3 - k42 < fu → ∀ (H : Heap) (locs : List Loc) (ls : Array Slot), gW D T A s [(o, .inr (8, [.int w0, .ref g1, .ref g2, .ref g3, .ref g4, .int (nI tp), .int w6, .int w7, .int w8, .int w9, .int w10, .int w11, .int w12, .int w13, .int w14, .ref g15, .int w16, .ref g17, .int w18, .int w19, .ref g20, .int w21, .ref g22, .ref g23, .ref g24, .int w25, .int w26, .int w27, .ref g28, .ref g29, .int sum, .ref g31, .ref g32, .ref g33])), (g1, .inl (T 0, 282, .inl fa)), (g28, .inl (T 0, 7, .inl fo)), (g29, .inl (T 0, 7, .inl gb42))] H locs → lv_has ls 5 [(4, .int (nI k42)), (0, .ref o), (1, .int (nI 3)), (2, .int (nI u)), (3, .int sum)] → W p l e (rmD 6 0 0) s m args below meth c H locs 0 0 (MQ below (gQ D A (q_m_lays3 T n o u sum w0 g1 g2 g3 g4 tp w6 w7 w8 w9 w10 w11 w12 w13 w14 g15 w16 g17 w18 w19 g20 w21 g22 g23 g24 w25 w26 w27 g28 g29 w30 g31 g32 g33 fa fo fp)) args s 0 0 A) (F0 m 42 ls []) := by
          intro fu_42
          induction fu_42 with
          | zero => intro k42 gb42 hk42 hmu; exact absurd hmu (Nat.not_lt_zero _)
          | succ fu_42 ih_42 =>
            intro k42 gb42 hk42 hmu_42 H locs ls V hl
            refine lv_iload hx hb dX8_lays_42 (lv_at hl 0 rfl) ?_
            refine lv_iload_n hx hb dX8_lays_44 rfl (lv_at hl 2 rfl) ?_
            refine lv_icmp_ge (tgt := 68) hx hb dX8_lays_45 (by decide) (fun c_13 => ?_) (fun c_13 => ?_)
            · skip
              have c_13 := b_le (by omega) (by omega) c_13
              exact g_vret (Qr := (q_m_lays3 T n o u sum w0 g1 g2 g3 g4 tp w6 w7 w8 w9 w10 w11 w12 w13 w14 g15 w16 g17 w18 w19 g20 w21 g22 g23 g24 w25 w26 w27 g28 g29 w30 g31 g32 g33 fa fo fp)) hC V ⟨(Nat.le_of_ble_eq_true rfl), (Nat.le_of_ble_eq_true rfl)⟩ ⟨sum, fo, gb42, rfl, rfl, (fun _ _ => rfl)⟩ dX8_lays_68
            · skip
              have c_13 := b_nle (by omega) (by omega) c_13
              refine lv_aload_n hx hb dX8_lays_48 rfl (lv_at hl 1 rfl) ?_
              refine g_get hC V (ci := 8) uwX8 0 rfl rfl 29 (by decide) w_941 rfl rfl dX8_lays_49 ?_
              refine lv_iload hx hb dX8_lays_52 (lv_at hl 0 rfl) ?_
              refine lv_aload_n hx hb dX8_lays_54 rfl (lv_at hl 1 rfl) ?_
              refine g_get hC V (ci := 8) uwX8 0 rfl rfl 28 (by decide) w_940 rfl rfl dX8_lays_55 ?_
              refine lv_iload hx hb dX8_lays_58 (lv_at hl 0 rfl) ?_
              refine g_iald hC V 2 rfl (vp_in_nI (by omega) (by omega)) (v := (fo k42)) (congrArg _ (nI_clamp (by omega))) dX8_lays_60 ?_
              refine g_iast hC V 3 rfl (vp_in_nI (by omega) (by omega)) (f' := (upd gb42 k42 (fo k42))) (by rw [nI_clamp (by omega)]) (ws' := [(o, .inr (8, [.int w0, .ref g1, .ref g2, .ref g3, .ref g4, .int (nI tp), .int w6, .int w7, .int w8, .int w9, .int w10, .int w11, .int w12, .int w13, .int w14, .ref g15, .int w16, .ref g17, .int w18, .int w19, .ref g20, .int w21, .ref g22, .ref g23, .ref g24, .int w25, .int w26, .int w27, .ref g28, .ref g29, .int sum, .ref g31, .ref g32, .ref g33])), (g1, .inl (T 0, 282, .inl fa)), (g28, .inl (T 0, 7, .inl fo)), (g29, .inl (T 0, 7, .inl (upd gb42 k42 (fo k42))))]) rfl dX8_lays_61 (fun H locs V => ?_)
              refine lv_iinc (v := (nI (k42 + 1))) (lv' := [(4, .int (nI (k42 + 1))), (0, .ref o), (1, .int (nI 3)), (2, .int (nI u)), (3, .int sum)]) hx hb dX8_lays_62 hl (k := 0) rfl (nI_1 _) (by decide) rfl (fun ls hl => ?_)
              refine lv_goto (tgt := 42) hx hb dX8_lays_65 (by decide) ?_
              exact ih_42 (k42 + 1) (upd gb42 k42 (fo k42)) (by omega) (by omega) _ _ _ V (lv_sub hl [0, 1, 2, 3, 4] rfl)
        exact L_12 _ 0 fp (by omega) (Nat.lt_succ_self _) _ _ _ V (lv_sub hl [0, 1, 2, 3, 4] rfl)
      · skip
        refine lv_iload_n hx hb dX8_lays_25 rfl (lv_at hl 3 rfl) ?_
        refine lv_aload_n hx hb dX8_lays_26 rfl (lv_at hl 0 rfl) ?_
        refine g_get hC V (ci := 8) uwX8 0 rfl rfl 30 (by decide) w_942 rfl rfl dX8_lays_27 ?_
        refine lv_icmp_lt (tgt := 34) hx hb dX8_lays_30 (by decide) (fun c_14 => ?_) (fun c_14 => ?_)
        · skip
          refine lv_aload_n hx hb dX8_lays_34 rfl (lv_at hl 0 rfl) ?_
          refine lv_iload_n hx hb dX8_lays_35 rfl (lv_at hl 3 rfl) ?_
          refine g_put hC V (ci := 8) uwX8 tyX8 tyX8_ok nmX8 0 rfl rfl 30 (by decide) w_942 rfl rfl rfl rfl (Nat.le_of_ble_eq_true rfl) (ws' := [(o, .inr (8, [.int w0, .ref g1, .ref g2, .ref g3, .ref g4, .int (nI tp), .int w6, .int w7, .int w8, .int w9, .int w10, .int w11, .int w12, .int w13, .int w14, .ref g15, .int w16, .ref g17, .int w18, .int w19, .ref g20, .int w21, .ref g22, .ref g23, .ref g24, .int w25, .int w26, .int w27, .ref g28, .ref g29, .int sum, .ref g31, .ref g32, .ref g33])), (g1, .inl (T 0, 282, .inl fa)), (g28, .inl (T 0, 7, .inl fo)), (g29, .inl (T 0, 7, .inl fp))]) rfl dX8_lays_36 (fun H locs V => ?_)
          refine lv_iconst (v := (nI 0)) hx hb dX8_lays_39 (by decide +kernel) ?_
          refine lv_istore (lv' := [(4, .int (nI 0)), (0, .ref o), (1, .int (nI 3)), (2, .int (nI u)), (3, .int sum)]) hx hb dX8_lays_40 hl (by decide) rfl (fun ls hl => ?_)
          have L_15 : ∀ (fu : Nat) (k42 : Nat) (gb42 : Nat → Int32), k42 ≤ 3 → 3 - k42 < fu → ∀ (H : Heap) (locs : List Loc) (ls : Array Slot), gW D T A s [(o, .inr (8, [.int w0, .ref g1, .ref g2, .ref g3, .ref g4, .int (nI tp), .int w6, .int w7, .int w8, .int w9, .int w10, .int w11, .int w12, .int w13, .int w14, .ref g15, .int w16, .ref g17, .int w18, .int w19, .ref g20, .int w21, .ref g22, .ref g23, .ref g24, .int w25, .int w26, .int w27, .ref g28, .ref g29, .int sum, .ref g31, .ref g32, .ref g33])), (g1, .inl (T 0, 282, .inl fa)), (g28, .inl (T 0, 7, .inl fo)), (g29, .inl (T 0, 7, .inl gb42))] H locs → lv_has ls 5 [(4, .int (nI k42)), (0, .ref o), (1, .int (nI 3)), (2, .int (nI u)), (3, .int sum)] → W p l e (rmD 6 0 0) s m args below meth c H locs 0 0 (MQ below (gQ D A (q_m_lays3 T n o u sum w0 g1 g2 g3 g4 tp w6 w7 w8 w9 w10 w11 w12 w13 w14 g15 w16 g17 w18 w19 g20 w21 g22 g23 g24 w25 w26 w27 g28 g29 w30 g31 g32 g33 fa fo fp)) args s 0 0 A) (F0 m 42 ls []) := by
            intro fu_42
            induction fu_42 with
            | zero => intro k42 gb42 hk42 hmu; exact absurd hmu (Nat.not_lt_zero _)
            | succ fu_42 ih_42 =>
              intro k42 gb42 hk42 hmu_42 H locs ls V hl
              refine lv_iload hx hb dX8_lays_42 (lv_at hl 0 rfl) ?_
              refine lv_iload_n hx hb dX8_lays_44 rfl (lv_at hl 2 rfl) ?_
              refine lv_icmp_ge (tgt := 68) hx hb dX8_lays_45 (by decide) (fun c_16 => ?_) (fun c_16 => ?_)
              · skip
                have c_16 := b_le (by omega) (by omega) c_16
                exact g_vret (Qr := (q_m_lays3 T n o u sum w0 g1 g2 g3 g4 tp w6 w7 w8 w9 w10 w11 w12 w13 w14 g15 w16 g17 w18 w19 g20 w21 g22 g23 g24 w25 w26 w27 g28 g29 w30 g31 g32 g33 fa fo fp)) hC V ⟨(Nat.le_of_ble_eq_true rfl), (Nat.le_of_ble_eq_true rfl)⟩ ⟨sum, fo, gb42, rfl, rfl, (fun _ _ => rfl)⟩ dX8_lays_68
              · skip
                have c_16 := b_nle (by omega) (by omega) c_16
                refine lv_aload_n hx hb dX8_lays_48 rfl (lv_at hl 1 rfl) ?_
                refine g_get hC V (ci := 8) uwX8 0 rfl rfl 29 (by decide) w_941 rfl rfl dX8_lays_49 ?_
                refine lv_iload hx hb dX8_lays_52 (lv_at hl 0 rfl) ?_
                refine lv_aload_n hx hb dX8_lays_54 rfl (lv_at hl 1 rfl) ?_
                refine g_get hC V (ci := 8) uwX8 0 rfl rfl 28 (by decide) w_940 rfl rfl dX8_lays_55 ?_
                refine lv_iload hx hb dX8_lays_58 (lv_at hl 0 rfl) ?_
                refine g_iald hC V 2 rfl (vp_in_nI (by omega) (by omega)) (v := (fo k42)) (congrArg _ (nI_clamp (by omega))) dX8_lays_60 ?_
                refine g_iast hC V 3 rfl (vp_in_nI (by omega) (by omega)) (f' := (upd gb42 k42 (fo k42))) (by rw [nI_clamp (by omega)]) (ws' := [(o, .inr (8, [.int w0, .ref g1, .ref g2, .ref g3, .ref g4, .int (nI tp), .int w6, .int w7, .int w8, .int w9, .int w10, .int w11, .int w12, .int w13, .int w14, .ref g15, .int w16, .ref g17, .int w18, .int w19, .ref g20, .int w21, .ref g22, .ref g23, .ref g24, .int w25, .int w26, .int w27, .ref g28, .ref g29, .int sum, .ref g31, .ref g32, .ref g33])), (g1, .inl (T 0, 282, .inl fa)), (g28, .inl (T 0, 7, .inl fo)), (g29, .inl (T 0, 7, .inl (upd gb42 k42 (fo k42))))]) rfl dX8_lays_61 (fun H locs V => ?_)
                refine lv_iinc (v := (nI (k42 + 1))) (lv' := [(4, .int (nI (k42 + 1))), (0, .ref o), (1, .int (nI 3)), (2, .int (nI u)), (3, .int sum)]) hx hb dX8_lays_62 hl (k := 0) rfl (nI_1 _) (by decide) rfl (fun ls hl => ?_)
                refine lv_goto (tgt := 42) hx hb dX8_lays_65 (by decide) ?_
                exact ih_42 (k42 + 1) (upd gb42 k42 (fo k42)) (by omega) (by omega) _ _ _ V (lv_sub hl [0, 1, 2, 3, 4] rfl)
          exact L_15 _ 0 fp (by omega) (Nat.lt_succ_self _) _ _ _ V (lv_sub hl [0, 1, 2, 3, 4] rfl)
        · skip
          exact g_vret (Qr := (q_m_lays3 T n o u sum w0 g1 g2 g3 g4 tp w6 w7 w8 w9 w10 w11 w12 w13 w14 g15 w16 g17 w18 w19 g20 w21 g22 g23 g24 w25 w26 w27 g28 g29 w30 g31 g32 g33 fa fo fp)) hC V ⟨(Nat.le_of_ble_eq_true rfl), (Nat.le_of_ble_eq_true rfl)⟩ ⟨w30, fo, fp, rfl, rfl, (fun _ _ => rfl)⟩ dX8_lays_33
    · have V : gW D T A s [(o, .inr (8, [.int w0, .ref g1, .ref g2, .ref g3, .ref g4, .int (nI tp), .int w6, .int w7, .int w8, .int w9, .int w10, .int w11, .int w12, .int w13, .int w14, .ref g15, .int w16, .ref g17, .int w18, .int w19, .ref g20, .int w21, .ref g22, .ref g23, .ref g24, .int w25, .int w26, .int w27, .ref g28, .ref g29, .int w30, .ref g31, .ref g32, .ref g33])), (g1, .inl (T 0, 282, .inl fa)), (g28, .inl (T 0, 7, .inl fo)), (g29, .inl (T 0, 7, .inl fp))] H locs := V _ [0, 0, 0] rfl rfl rfl (by decide +kernel) rfl
      show W p l e _ s m args below meth c H locs _ _ _ (F0 m 14 ls [.int (nI 0)])
      refine lv_if_eq (tgt := 33) hx hb dX8_lays_14 (by decide) (fun _ => ?_) (fun c => absurd (show (nI 0) = 0 by decide +kernel) c)
      exact g_vret (Qr := (q_m_lays3 T n o u sum w0 g1 g2 g3 g4 tp w6 w7 w8 w9 w10 w11 w12 w13 w14 g15 w16 g17 w18 w19 g20 w21 g22 g23 g24 w25 w26 w27 g28 g29 w30 g31 g32 g33 fa fo fp)) hC V ⟨(Nat.le_of_ble_eq_true rfl), (Nat.le_of_ble_eq_true rfl)⟩ ⟨w30, fo, fp, rfl, rfl, (fun _ _ => rfl)⟩ dX8_lays_33

def q_m_lays2 (T : Nat → ClassId) (n : Nat) (o : Nat) (u : Nat) (sum : Int32) (w0 : Int32) (g1 : Nat) (g2 : Nat) (g3 : Nat) (g4 : Nat) (tp : Nat) (w6 : Int32) (w7 : Int32) (w8 : Int32) (w9 : Int32) (w10 : Int32) (w11 : Int32) (w12 : Int32) (w13 : Int32) (w14 : Int32) (g15 : Nat) (w16 : Int32) (g17 : Nat) (w18 : Int32) (w19 : Int32) (g20 : Nat) (w21 : Int32) (g22 : Nat) (g23 : Nat) (g24 : Nat) (w25 : Int32) (w26 : Int32) (w27 : Int32) (g28 : Nat) (g29 : Nat) (w30 : Int32) (g31 : Nat) (g32 : Nat) (g33 : Nat) (fa : Nat → Int32) (fo : Nat → Int32) (fp : Nat → Int32) : Option Value → va_W → Prop := fun rr ww => (∃ (bs : Int32) (go : Nat → Int32) (gp : Nat → Int32), rr = none ∧ ww = [(o, .inr (8, [.int w0, .ref g1, .ref g2, .ref g3, .ref g4, .int (nI tp), .int w6, .int w7, .int w8, .int w9, .int w10, .int w11, .int w12, .int w13, .int w14, .ref g15, .int w16, .ref g17, .int w18, .int w19, .ref g20, .int w21, .ref g22, .ref g23, .ref g24, .int w25, .int w26, .int w27, .ref g28, .ref g29, .int bs, .ref g31, .ref g32, .ref g33])), (g1, .inl (T 0, 282, .inl fa)), (g28, .inl (T 0, 7, .inl go)), (g29, .inl (T 0, 7, .inl gp))] ∧ (∀ j, j < 2 → go j = fo j))
set_option maxHeartbeats 4000000 in
set_option maxRecDepth 100000 in
theorem m_lays2 (l : Launch) (D : va_G) (T : Nat → ClassId) (n : Nat) (o : Nat) (u : Nat) (sum : Int32) (w0 : Int32) (g1 : Nat) (g2 : Nat) (g3 : Nat) (g4 : Nat) (tp : Nat) (w6 : Int32) (w7 : Int32) (w8 : Int32) (w9 : Int32) (w10 : Int32) (w11 : Int32) (w12 : Int32) (w13 : Int32) (w14 : Int32) (g15 : Nat) (w16 : Int32) (g17 : Nat) (w18 : Int32) (w19 : Int32) (g20 : Nat) (w21 : Int32) (g22 : Nat) (g23 : Nat) (g24 : Nat) (w25 : Int32) (w26 : Int32) (w27 : Int32) (g28 : Nat) (g29 : Nat) (w30 : Int32) (g31 : Nat) (g32 : Nat) (g33 : Nat) (fa : Nat → Int32) (fo : Nat → Int32) (fp : Nat → Int32) (h_a : MI n fa) (h_li : LI 2 fo) (h_lt : ∀ j, j < 2 → toF fo j < n) (h_ub : UB 2 u fo) (h_1 : 1 ≤ n) (h_7 : n ≤ 7) (h_kn : 2 ≤ n) : Ct l yX8_lays cX8_lays 5 none 7 0 0 D T [.ref o, .int (nI 2), .int (nI u), .int sum] [(o, .inr (8, [.int w0, .ref g1, .ref g2, .ref g3, .ref g4, .int (nI tp), .int w6, .int w7, .int w8, .int w9, .int w10, .int w11, .int w12, .int w13, .int w14, .ref g15, .int w16, .ref g17, .int w18, .int w19, .ref g20, .int w21, .ref g22, .ref g23, .ref g24, .int w25, .int w26, .int w27, .ref g28, .ref g29, .int w30, .ref g31, .ref g32, .ref g33])), (g1, .inl (T 0, 282, .inl fa)), (g28, .inl (T 0, 7, .inl fo)), (g29, .inl (T 0, 7, .inl fp))] (q_m_lays2 T n o u sum w0 g1 g2 g3 g4 tp w6 w7 w8 w9 w10 w11 w12 w13 w14 g15 w16 g17 w18 w19 g20 w21 g22 g23 g24 w25 w26 w27 g28 g29 w30 g31 g32 g33 fa fo fp) := by
  refine Ct.of (cc := cX8_lays) (maxL := 5) (ret := none) (by decide) (Nat.le_of_ble_eq_true rfl) ?_
  intro p e s m args below meth c A ls hC hnm V hl
  obtain ⟨hx, hb, hr, hml, hown, hts, hlocks⟩ := id hC
  generalize hH : s.heap = H at V ⊢
  clear hH
  have hl : lv_has ls 5 [(0, .ref o), (1, .int (nI 2)), (2, .int (nI u)), (3, .int sum)] := hl
  generalize hlo : ([] : List Loc) = locs at V ⊢
  clear hlo
  have ms0 := ms_rf h_a
  have hn10 := h_a.1
  have hu := h_ub.1
  refine lv_iload_n hx hb dX8_lays_0 rfl (lv_at hl 1 rfl) ?_
  refine lv_aload_n hx hb dX8_lays_1 rfl (lv_at hl 0 rfl) ?_
  refine g_get hC V (ci := 8) uwX8 0 rfl rfl 1 (by decide) w_913 rfl rfl dX8_lays_2 ?_
  refine lv_iconst (v := (nI 0)) hx hb dX8_lays_5 (by decide +kernel) ?_
  refine g_iald hC V 1 rfl (vp_in_nI (by decide) (by decide)) (v := (nI n)) (by rw [nI_clamp (by decide)]; first | rfl | exact h_a.2.1) dX8_lays_6 ?_
  refine lv_icmp_ne (tgt := 69) hx hb dX8_lays_7 (by decide) (fun c_1 => ?_) (fun c_1 => ?_)
  · skip
    have c_1 := b_ne (by omega) (by omega) c_1
    refine lv_iconst (v := (nI 0)) hx hb dX8_lays_69 (by decide +kernel) ?_
    refine lv_istore (lv' := [(4, .int (nI 0)), (0, .ref o), (1, .int (nI 2)), (2, .int (nI u)), (3, .int sum)]) hx hb dX8_lays_70 hl (by decide) rfl (fun ls hl => ?_)
    have L_2 : ∀ (fu : Nat) (k72 : Nat) (bv : Int32) (f72 : Nat → Int32) (gb72 : Nat → Int32), k72 ≤ n → (∀ j, j < 2 → f72 j = fo j) → n - k72 < fu → ∀ (H : Heap) (locs : List Loc) (ls : Array Slot), gW D T A s [(o, .inr (8, [.int w0, .ref g1, .ref g2, .ref g3, .ref g4, .int (nI tp), .int w6, .int w7, .int w8, .int w9, .int w10, .int w11, .int w12, .int w13, .int w14, .ref g15, .int w16, .ref g17, .int w18, .int w19, .ref g20, .int w21, .ref g22, .ref g23, .ref g24, .int w25, .int w26, .int w27, .ref g28, .ref g29, .int bv, .ref g31, .ref g32, .ref g33])), (g1, .inl (T 0, 282, .inl fa)), (g28, .inl (T 0, 7, .inl f72)), (g29, .inl (T 0, 7, .inl gb72))] H locs → lv_has ls 5 [(4, .int (nI k72)), (0, .ref o), (1, .int (nI 2)), (2, .int (nI u)), (3, .int sum)] → W p l e (rmD 7 0 0) s m args below meth c H locs 0 0 (MQ below (gQ D A (q_m_lays2 T n o u sum w0 g1 g2 g3 g4 tp w6 w7 w8 w9 w10 w11 w12 w13 w14 g15 w16 g17 w18 w19 g20 w21 g22 g23 g24 w25 w26 w27 g28 g29 w30 g31 g32 g33 fa fo fp)) args s 0 0 A) (F0 m 72 ls []) := by
      intro fu_72
      induction fu_72 with
      | zero => intro k72 bv f72 gb72 hk72 hpre hmu; exact absurd hmu (Nat.not_lt_zero _)
      | succ fu_72 ih_72 =>
        intro k72 bv f72 gb72 hk72 hpre hmu_72 H locs ls V hl
        refine lv_iload hx hb dX8_lays_72 (lv_at hl 0 rfl) ?_
        refine lv_aload_n hx hb dX8_lays_74 rfl (lv_at hl 1 rfl) ?_
        refine g_get hC V (ci := 8) uwX8 0 rfl rfl 1 (by decide) w_913 rfl rfl dX8_lays_75 ?_
        refine lv_iconst (v := (nI 0)) hx hb dX8_lays_78 (by decide +kernel) ?_
        refine g_iald hC V 1 rfl (vp_in_nI (by decide) (by decide)) (v := (nI n)) (by rw [nI_clamp (by decide)]; first | rfl | exact h_a.2.1) dX8_lays_79 ?_
        refine lv_icmp_ge (tgt := 132) hx hb dX8_lays_80 (by decide) (fun c_3 => ?_) (fun c_3 => ?_)
        · skip
          have c_3 := b_le (by omega) (by omega) c_3
          exact g_vret (Qr := (q_m_lays2 T n o u sum w0 g1 g2 g3 g4 tp w6 w7 w8 w9 w10 w11 w12 w13 w14 g15 w16 g17 w18 w19 g20 w21 g22 g23 g24 w25 w26 w27 g28 g29 w30 g31 g32 g33 fa fo fp)) hC V ⟨(Nat.le_of_ble_eq_true rfl), (Nat.le_of_ble_eq_true rfl)⟩ ⟨bv, f72, gb72, rfl, rfl, hpre⟩ dX8_lays_132
        · skip
          have c_3 := b_nle (by omega) (by omega) c_3
          refine lv_iload_n hx hb dX8_lays_83 rfl (lv_at hl 3 rfl) ?_
          refine lv_i2l (v := (nI u).toInt64) hx hb dX8_lays_84 rfl ?_
          refine lv_iload hx hb dX8_lays_85 (lv_at hl 0 rfl) ?_
          refine g_callSU (nA := 2) hC V hl.1 (m_isIn7 l D T u k72 h_ub.1 (by omega)) w_1130 w_1131 w_9 w_1132 (by decide +kernel) rfl ⟨(Nat.le_of_ble_eq_true rfl), (Nat.le_of_ble_eq_true rfl)⟩ [] rfl rfl (Nat.le_of_ble_eq_true rfl) dX8_lays_87 ⟨(Nat.le_of_ble_eq_true rfl), (Nat.le_of_ble_eq_true rfl)⟩ rfl (fun r w1 H locs hQ V => ?_)
          rcases hQ with ⟨rfl, rfl, f_4⟩ | ⟨rfl, rfl, f_5⟩
          · have V : gW D T A s [(o, .inr (8, [.int w0, .ref g1, .ref g2, .ref g3, .ref g4, .int (nI tp), .int w6, .int w7, .int w8, .int w9, .int w10, .int w11, .int w12, .int w13, .int w14, .ref g15, .int w16, .ref g17, .int w18, .int w19, .ref g20, .int w21, .ref g22, .ref g23, .ref g24, .int w25, .int w26, .int w27, .ref g28, .ref g29, .int bv, .ref g31, .ref g32, .ref g33])), (g1, .inl (T 0, 282, .inl fa)), (g28, .inl (T 0, 7, .inl f72)), (g29, .inl (T 0, 7, .inl gb72))] H locs := V _ [] rfl rfl rfl (by decide +kernel) rfl
            show W p l e _ s m args below meth c H locs _ _ _ (F0 m 90 ls [.int (nI 1)])
            refine lv_if_eq (tgt := 96) hx hb dX8_lays_90 (by decide) (fun c => absurd (show (nI 1) = 0 from c) (by decide +kernel)) (fun _ => ?_)
            refine lv_goto (tgt := 126) hx hb dX8_lays_93 (by decide) ?_
            refine lv_iinc (v := (nI (k72 + 1))) (lv' := [(4, .int (nI (k72 + 1))), (0, .ref o), (1, .int (nI 2)), (2, .int (nI u)), (3, .int sum)]) hx hb dX8_lays_126 hl (k := 0) rfl (nI_1 _) (by decide) rfl (fun ls hl => ?_)
            refine lv_goto (tgt := 72) hx hb dX8_lays_129 (by decide) ?_
            exact ih_72 (k72 + 1) bv f72 gb72 (by omega) (by assumption) (by omega) _ _ _ V (lv_sub hl [0, 1, 2, 3, 4] rfl)
          · have V : gW D T A s [(o, .inr (8, [.int w0, .ref g1, .ref g2, .ref g3, .ref g4, .int (nI tp), .int w6, .int w7, .int w8, .int w9, .int w10, .int w11, .int w12, .int w13, .int w14, .ref g15, .int w16, .ref g17, .int w18, .int w19, .ref g20, .int w21, .ref g22, .ref g23, .ref g24, .int w25, .int w26, .int w27, .ref g28, .ref g29, .int bv, .ref g31, .ref g32, .ref g33])), (g1, .inl (T 0, 282, .inl fa)), (g28, .inl (T 0, 7, .inl f72)), (g29, .inl (T 0, 7, .inl gb72))] H locs := V _ [] rfl rfl rfl (by decide +kernel) rfl
            show W p l e _ s m args below meth c H locs _ _ _ (F0 m 90 ls [.int (nI 0)])
            refine lv_if_eq (tgt := 96) hx hb dX8_lays_90 (by decide) (fun _ => ?_) (fun c => absurd (show (nI 0) = 0 by decide +kernel) c)
            refine lv_aload_n hx hb dX8_lays_96 rfl (lv_at hl 1 rfl) ?_
            refine g_get hC V (ci := 8) uwX8 0 rfl rfl 28 (by decide) w_940 rfl rfl dX8_lays_97 ?_
            refine lv_iload_n hx hb dX8_lays_100 rfl (lv_at hl 2 rfl) ?_
            refine lv_iload hx hb dX8_lays_101 (lv_at hl 0 rfl) ?_
            refine g_iast hC V 2 rfl (vp_in_nI (by decide) (by decide)) (f' := (upd f72 2 (nI k72))) (by rw [nI_clamp (by decide)]) (ws' := [(o, .inr (8, [.int w0, .ref g1, .ref g2, .ref g3, .ref g4, .int (nI tp), .int w6, .int w7, .int w8, .int w9, .int w10, .int w11, .int w12, .int w13, .int w14, .ref g15, .int w16, .ref g17, .int w18, .int w19, .ref g20, .int w21, .ref g22, .ref g23, .ref g24, .int w25, .int w26, .int w27, .ref g28, .ref g29, .int bv, .ref g31, .ref g32, .ref g33])), (g1, .inl (T 0, 282, .inl fa)), (g28, .inl (T 0, 7, .inl (upd f72 2 (nI k72)))), (g29, .inl (T 0, 7, .inl gb72))]) rfl dX8_lays_103 (fun H locs V => ?_)
            refine lv_aload_n hx hb dX8_lays_104 rfl (lv_at hl 1 rfl) ?_
            refine lv_iload_n hx hb dX8_lays_105 rfl (lv_at hl 2 rfl) ?_
            refine lv_iconst (v := (nI 1)) hx hb dX8_lays_106 (by decide +kernel) ?_
            refine lv_iadd hx hb dX8_lays_107 ?_
            refine g_vi (y := (nI 3)) (by decide +kernel) ?_
            refine lv_iload_n hx hb dX8_lays_108 rfl (lv_at hl 3 rfl) ?_
            refine lv_iconst (v := (nI 1)) hx hb dX8_lays_109 (by decide +kernel) ?_
            refine lv_iload hx hb dX8_lays_110 (lv_at hl 0 rfl) ?_
            refine lv_ishl hx hb dX8_lays_112 ?_
            refine g_vi (y := (nI (2 ^ k72))) (shl_pow (by omega)) ?_
            refine lv_ior hx hb dX8_lays_113 ?_
            refine g_vi (y := nI (u ||| (2 ^ k72))) (or7 (by omega) (by omega)) ?_
            refine lv_iload_n hx hb dX8_lays_114 rfl (lv_at hl 4 rfl) ?_
            refine lv_aload_n hx hb dX8_lays_115 rfl (lv_at hl 1 rfl) ?_
            refine lv_iload_n hx hb dX8_lays_116 rfl (lv_at hl 2 rfl) ?_
            refine lv_iload hx hb dX8_lays_117 (lv_at hl 0 rfl) ?_
            refine g_callVU (nA := 2) hC V hl.1 (m_offBy l D T o 2 k72 w0 g1 g2 g3 g4 tp w6 w7 w8 w9 w10 w11 w12 w13 w14 g15 w16 g17 w18 w19 g20 w21 g22 g23 g24 w25 w26 w27 g28 g29 bv g31 g32 g33 fa (by first | assumption | omega) (by first | assumption | omega)) w_1328 w_1330 w_s77 w_9 w_1331 (by decide +kernel) rfl ⟨(Nat.le_of_ble_eq_true rfl), (Nat.le_of_ble_eq_true rfl)⟩ 0 (ci := 8) rfl rfl [0, 1] rfl rfl (Nat.le_of_ble_eq_true rfl) dX8_lays_119 ⟨(Nat.le_of_ble_eq_true rfl), (Nat.le_of_ble_eq_true rfl)⟩ rfl (fun r w1 H locs hQ V => ?_)
            obtain ⟨z_6, rfl, rfl⟩ := hQ
            have V : gW D T A s [(o, .inr (8, [.int w0, .ref g1, .ref g2, .ref g3, .ref g4, .int (nI tp), .int w6, .int w7, .int w8, .int w9, .int w10, .int w11, .int w12, .int w13, .int w14, .ref g15, .int w16, .ref g17, .int w18, .int w19, .ref g20, .int w21, .ref g22, .ref g23, .ref g24, .int w25, .int w26, .int w27, .ref g28, .ref g29, .int bv, .ref g31, .ref g32, .ref g33])), (g1, .inl (T 0, 282, .inl fa)), (g28, .inl (T 0, 7, .inl (upd f72 2 (nI k72)))), (g29, .inl (T 0, 7, .inl gb72))] H locs := V _ [0, 0] rfl rfl rfl (by decide +kernel) rfl
            show W p l e _ s m args below meth c H locs _ _ _ (F0 m 122 ls [.int z_6, .int sum, .int (nI (u ||| (2 ^ k72))), .int (nI 3), .ref o])
            refine lv_iadd hx hb dX8_lays_122 ?_
            refine g_callV (wr := []) (nA := 3) hC V hl.1 (m_lays3 l D T n o (u ||| (2 ^ k72)) (sum + z_6) w0 g1 g2 g3 g4 tp w6 w7 w8 w9 w10 w11 w12 w13 w14 g15 w16 g17 w18 w19 g20 w21 g22 g23 g24 w25 w26 w27 g28 g29 bv g31 g32 g33 fa (upd f72 2 (nI k72)) gb72 h_a (li_put (li_ext h_li hpre) (by omega) (ub_free (ub_ext h_ub hpre) (by assumption))) (lt_put h_lt hpre (by omega) h_7) (ub_put (ub_ext h_ub hpre) (by omega)) h_1 h_7 (by omega)) w_1320 w_1322 w_s75 w_9 w_1323 (by decide +kernel) rfl ⟨(Nat.le_of_ble_eq_true rfl), (Nat.le_of_ble_eq_true rfl)⟩ 0 (ci := 8) rfl rfl [0, 1, 2, 3] [] rfl rfl rfl rfl (by decide) (Nat.le_of_ble_eq_true rfl) dX8_lays_123 ⟨(Nat.le_of_ble_eq_true rfl), (Nat.le_of_ble_eq_true rfl)⟩ rfl (fun r w1 H locs hQ V => ?_)
            obtain ⟨bs_7, go_8, gp_9, rfl, rfl, f_10⟩ := hQ
            have V : gW D T A s [(o, .inr (8, [.int w0, .ref g1, .ref g2, .ref g3, .ref g4, .int (nI tp), .int w6, .int w7, .int w8, .int w9, .int w10, .int w11, .int w12, .int w13, .int w14, .ref g15, .int w16, .ref g17, .int w18, .int w19, .ref g20, .int w21, .ref g22, .ref g23, .ref g24, .int w25, .int w26, .int w27, .ref g28, .ref g29, .int bs_7, .ref g31, .ref g32, .ref g33])), (g1, .inl (T 0, 282, .inl fa)), (g28, .inl (T 0, 7, .inl go_8)), (g29, .inl (T 0, 7, .inl gp_9))] H locs := V
            show W p l e _ s m args below meth c H locs _ _ _ (F0 m 126 ls [])
            have hpre2 : ∀ j, j < 2 → go_8 j = fo j := fun j hj => (f_10 j (by omega)).trans ((up_other (by omega)).trans (hpre j hj))
            refine lv_iinc (v := (nI (k72 + 1))) (lv' := [(4, .int (nI (k72 + 1))), (0, .ref o), (1, .int (nI 2)), (2, .int (nI u)), (3, .int sum)]) hx hb dX8_lays_126 hl (k := 0) rfl (nI_1 _) (by decide) rfl (fun ls hl => ?_)
            refine lv_goto (tgt := 72) hx hb dX8_lays_129 (by decide) ?_
            exact ih_72 (k72 + 1) bs_7 go_8 gp_9 (by omega) (by assumption) (by omega) _ _ _ V (lv_sub hl [0, 1, 2, 3, 4] rfl)
    exact L_2 _ 0 w30 fo fp (by omega) (fun _ _ => rfl) (Nat.lt_succ_self _) _ _ _ V (lv_sub hl [0, 1, 2, 3, 4] rfl)
  · skip
    have c_1 := b_eq (by omega) (by omega) c_1
    have hkn : 2 = n := c_1
    refine lv_aload_n hx hb dX8_lays_10 rfl (lv_at hl 0 rfl) ?_
    refine g_callVU (nA := 0) hC V hl.1 (m_isOneRing l D T n o w0 g1 g2 g3 g4 tp w6 w7 w8 w9 w10 w11 w12 w13 w14 g15 w16 g17 w18 w19 g20 w21 g22 g23 g24 w25 w26 w27 g28 g29 w30 g31 g32 g33 fa fo h_a (lf_of h_li h_lt (by omega)) h_1 h_7) w_1324 w_1326 w_s76 w_9 w_1327 (by decide +kernel) rfl ⟨(Nat.le_of_ble_eq_true rfl), (Nat.le_of_ble_eq_true rfl)⟩ 0 (ci := 8) rfl rfl [0, 1, 2] rfl rfl (Nat.le_of_ble_eq_true rfl) dX8_lays_11 ⟨(Nat.le_of_ble_eq_true rfl), (Nat.le_of_ble_eq_true rfl)⟩ rfl (fun r w1 H locs hQ V => ?_)
    rcases hQ with ⟨rfl, rfl⟩ | ⟨rfl, rfl⟩
    · have V : gW D T A s [(o, .inr (8, [.int w0, .ref g1, .ref g2, .ref g3, .ref g4, .int (nI tp), .int w6, .int w7, .int w8, .int w9, .int w10, .int w11, .int w12, .int w13, .int w14, .ref g15, .int w16, .ref g17, .int w18, .int w19, .ref g20, .int w21, .ref g22, .ref g23, .ref g24, .int w25, .int w26, .int w27, .ref g28, .ref g29, .int w30, .ref g31, .ref g32, .ref g33])), (g1, .inl (T 0, 282, .inl fa)), (g28, .inl (T 0, 7, .inl fo)), (g29, .inl (T 0, 7, .inl fp))] H locs := V _ [0, 0, 0] rfl rfl rfl (by decide +kernel) rfl
      show W p l e _ s m args below meth c H locs _ _ _ (F0 m 14 ls [.int (nI 1)])
      refine lv_if_eq (tgt := 33) hx hb dX8_lays_14 (by decide) (fun c => absurd (show (nI 1) = 0 from c) (by decide +kernel)) (fun _ => ?_)
      refine lv_aload_n hx hb dX8_lays_17 rfl (lv_at hl 0 rfl) ?_
      refine g_get hC V (ci := 8) uwX8 0 rfl rfl 30 (by decide) w_942 rfl rfl dX8_lays_18 ?_
      refine lv_iconst (v := (-1)) hx hb dX8_lays_21 (by decide +kernel) ?_
      refine lv_icmp_eq (tgt := 34) hx hb dX8_lays_22 (by decide) (fun c_11 => ?_) (fun c_11 => ?_)
      · skip
        refine lv_aload_n hx hb dX8_lays_34 rfl (lv_at hl 0 rfl) ?_
        refine lv_iload_n hx hb dX8_lays_35 rfl (lv_at hl 3 rfl) ?_
        refine g_put hC V (ci := 8) uwX8 tyX8 tyX8_ok nmX8 0 rfl rfl 30 (by decide) w_942 rfl rfl rfl rfl (Nat.le_of_ble_eq_true rfl) (ws' := [(o, .inr (8, [.int w0, .ref g1, .ref g2, .ref g3, .ref g4, .int (nI tp), .int w6, .int w7, .int w8, .int w9, .int w10, .int w11, .int w12, .int w13, .int w14, .ref g15, .int w16, .ref g17, .int w18, .int w19, .ref g20, .int w21, .ref g22, .ref g23, .ref g24, .int w25, .int w26, .int w27, .ref g28, .ref g29, .int sum, .ref g31, .ref g32, .ref g33])), (g1, .inl (T 0, 282, .inl fa)), (g28, .inl (T 0, 7, .inl fo)), (g29, .inl (T 0, 7, .inl fp))]) rfl dX8_lays_36 (fun H locs V => ?_)
        refine lv_iconst (v := (nI 0)) hx hb dX8_lays_39 (by decide +kernel) ?_
        refine lv_istore (lv' := [(4, .int (nI 0)), (0, .ref o), (1, .int (nI 2)), (2, .int (nI u)), (3, .int sum)]) hx hb dX8_lays_40 hl (by decide) rfl (fun ls hl => ?_)
        have L_12 : ∀ (fu : Nat) (k42 : Nat) (gb42 : Nat → Int32), k42 ≤ 2 → 2 - k42 < fu → ∀ (H : Heap) (locs : List Loc) (ls : Array Slot), gW D T A s [(o, .inr (8, [.int w0, .ref g1, .ref g2, .ref g3, .ref g4, .int (nI tp), .int w6, .int w7, .int w8, .int w9, .int w10, .int w11, .int w12, .int w13, .int w14, .ref g15, .int w16, .ref g17, .int w18, .int w19, .ref g20, .int w21, .ref g22, .ref g23, .ref g24, .int w25, .int w26, .int w27, .ref g28, .ref g29, .int sum, .ref g31, .ref g32, .ref g33])), (g1, .inl (T 0, 282, .inl fa)), (g28, .inl (T 0, 7, .inl fo)), (g29, .inl (T 0, 7, .inl gb42))] H locs → lv_has ls 5 [(4, .int (nI k42)), (0, .ref o), (1, .int (nI 2)), (2, .int (nI u)), (3, .int sum)] → W p l e (rmD 7 0 0) s m args below meth c H locs 0 0 (MQ below (gQ D A (q_m_lays2 T n o u sum w0 g1 g2 g3 g4 tp w6 w7 w8 w9 w10 w11 w12 w13 w14 g15 w16 g17 w18 w19 g20 w21 g22 g23 g24 w25 w26 w27 g28 g29 w30 g31 g32 g33 fa fo fp)) args s 0 0 A) (F0 m 42 ls []) := by
          intro fu_42
          induction fu_42 with
          | zero => intro k42 gb42 hk42 hmu; exact absurd hmu (Nat.not_lt_zero _)
          | succ fu_42 ih_42 =>
            intro k42 gb42 hk42 hmu_42 H locs ls V hl
            refine lv_iload hx hb dX8_lays_42 (lv_at hl 0 rfl) ?_
            refine lv_iload_n hx hb dX8_lays_44 rfl (lv_at hl 2 rfl) ?_
            refine lv_icmp_ge (tgt := 68) hx hb dX8_lays_45 (by decide) (fun c_13 => ?_) (fun c_13 => ?_)
            · skip
              have c_13 := b_le (by omega) (by omega) c_13
              exact g_vret (Qr := (q_m_lays2 T n o u sum w0 g1 g2 g3 g4 tp w6 w7 w8 w9 w10 w11 w12 w13 w14 g15 w16 g17 w18 w19 g20 w21 g22 g23 g24 w25 w26 w27 g28 g29 w30 g31 g32 g33 fa fo fp)) hC V ⟨(Nat.le_of_ble_eq_true rfl), (Nat.le_of_ble_eq_true rfl)⟩ ⟨sum, fo, gb42, rfl, rfl, (fun _ _ => rfl)⟩ dX8_lays_68
            · skip
              have c_13 := b_nle (by omega) (by omega) c_13
              refine lv_aload_n hx hb dX8_lays_48 rfl (lv_at hl 1 rfl) ?_
              refine g_get hC V (ci := 8) uwX8 0 rfl rfl 29 (by decide) w_941 rfl rfl dX8_lays_49 ?_
              refine lv_iload hx hb dX8_lays_52 (lv_at hl 0 rfl) ?_
              refine lv_aload_n hx hb dX8_lays_54 rfl (lv_at hl 1 rfl) ?_
              refine g_get hC V (ci := 8) uwX8 0 rfl rfl 28 (by decide) w_940 rfl rfl dX8_lays_55 ?_
              refine lv_iload hx hb dX8_lays_58 (lv_at hl 0 rfl) ?_
              refine g_iald hC V 2 rfl (vp_in_nI (by omega) (by omega)) (v := (fo k42)) (congrArg _ (nI_clamp (by omega))) dX8_lays_60 ?_
              refine g_iast hC V 3 rfl (vp_in_nI (by omega) (by omega)) (f' := (upd gb42 k42 (fo k42))) (by rw [nI_clamp (by omega)]) (ws' := [(o, .inr (8, [.int w0, .ref g1, .ref g2, .ref g3, .ref g4, .int (nI tp), .int w6, .int w7, .int w8, .int w9, .int w10, .int w11, .int w12, .int w13, .int w14, .ref g15, .int w16, .ref g17, .int w18, .int w19, .ref g20, .int w21, .ref g22, .ref g23, .ref g24, .int w25, .int w26, .int w27, .ref g28, .ref g29, .int sum, .ref g31, .ref g32, .ref g33])), (g1, .inl (T 0, 282, .inl fa)), (g28, .inl (T 0, 7, .inl fo)), (g29, .inl (T 0, 7, .inl (upd gb42 k42 (fo k42))))]) rfl dX8_lays_61 (fun H locs V => ?_)
              refine lv_iinc (v := (nI (k42 + 1))) (lv' := [(4, .int (nI (k42 + 1))), (0, .ref o), (1, .int (nI 2)), (2, .int (nI u)), (3, .int sum)]) hx hb dX8_lays_62 hl (k := 0) rfl (nI_1 _) (by decide) rfl (fun ls hl => ?_)
              refine lv_goto (tgt := 42) hx hb dX8_lays_65 (by decide) ?_
              exact ih_42 (k42 + 1) (upd gb42 k42 (fo k42)) (by omega) (by omega) _ _ _ V (lv_sub hl [0, 1, 2, 3, 4] rfl)
        exact L_12 _ 0 fp (by omega) (Nat.lt_succ_self _) _ _ _ V (lv_sub hl [0, 1, 2, 3, 4] rfl)
      · skip
        refine lv_iload_n hx hb dX8_lays_25 rfl (lv_at hl 3 rfl) ?_
        refine lv_aload_n hx hb dX8_lays_26 rfl (lv_at hl 0 rfl) ?_
        refine g_get hC V (ci := 8) uwX8 0 rfl rfl 30 (by decide) w_942 rfl rfl dX8_lays_27 ?_
        refine lv_icmp_lt (tgt := 34) hx hb dX8_lays_30 (by decide) (fun c_14 => ?_) (fun c_14 => ?_)
        · skip
          refine lv_aload_n hx hb dX8_lays_34 rfl (lv_at hl 0 rfl) ?_
          refine lv_iload_n hx hb dX8_lays_35 rfl (lv_at hl 3 rfl) ?_
          refine g_put hC V (ci := 8) uwX8 tyX8 tyX8_ok nmX8 0 rfl rfl 30 (by decide) w_942 rfl rfl rfl rfl (Nat.le_of_ble_eq_true rfl) (ws' := [(o, .inr (8, [.int w0, .ref g1, .ref g2, .ref g3, .ref g4, .int (nI tp), .int w6, .int w7, .int w8, .int w9, .int w10, .int w11, .int w12, .int w13, .int w14, .ref g15, .int w16, .ref g17, .int w18, .int w19, .ref g20, .int w21, .ref g22, .ref g23, .ref g24, .int w25, .int w26, .int w27, .ref g28, .ref g29, .int sum, .ref g31, .ref g32, .ref g33])), (g1, .inl (T 0, 282, .inl fa)), (g28, .inl (T 0, 7, .inl fo)), (g29, .inl (T 0, 7, .inl fp))]) rfl dX8_lays_36 (fun H locs V => ?_)
          refine lv_iconst (v := (nI 0)) hx hb dX8_lays_39 (by decide +kernel) ?_
          refine lv_istore (lv' := [(4, .int (nI 0)), (0, .ref o), (1, .int (nI 2)), (2, .int (nI u)), (3, .int sum)]) hx hb dX8_lays_40 hl (by decide) rfl (fun ls hl => ?_)
          have L_15 : ∀ (fu : Nat) (k42 : Nat) (gb42 : Nat → Int32), k42 ≤ 2 → 2 - k42 < fu → ∀ (H : Heap) (locs : List Loc) (ls : Array Slot), gW D T A s [(o, .inr (8, [.int w0, .ref g1, .ref g2, .ref g3, .ref g4, .int (nI tp), .int w6, .int w7, .int w8, .int w9, .int w10, .int w11, .int w12, .int w13, .int w14, .ref g15, .int w16, .ref g17, .int w18, .int w19, .ref g20, .int w21, .ref g22, .ref g23, .ref g24, .int w25, .int w26, .int w27, .ref g28, .ref g29, .int sum, .ref g31, .ref g32, .ref g33])), (g1, .inl (T 0, 282, .inl fa)), (g28, .inl (T 0, 7, .inl fo)), (g29, .inl (T 0, 7, .inl gb42))] H locs → lv_has ls 5 [(4, .int (nI k42)), (0, .ref o), (1, .int (nI 2)), (2, .int (nI u)), (3, .int sum)] → W p l e (rmD 7 0 0) s m args below meth c H locs 0 0 (MQ below (gQ D A (q_m_lays2 T n o u sum w0 g1 g2 g3 g4 tp w6 w7 w8 w9 w10 w11 w12 w13 w14 g15 w16 g17 w18 w19 g20 w21 g22 g23 g24 w25 w26 w27 g28 g29 w30 g31 g32 g33 fa fo fp)) args s 0 0 A) (F0 m 42 ls []) := by
            intro fu_42
            induction fu_42 with
            | zero => intro k42 gb42 hk42 hmu; exact absurd hmu (Nat.not_lt_zero _)
            | succ fu_42 ih_42 =>
              intro k42 gb42 hk42 hmu_42 H locs ls V hl
              refine lv_iload hx hb dX8_lays_42 (lv_at hl 0 rfl) ?_
              refine lv_iload_n hx hb dX8_lays_44 rfl (lv_at hl 2 rfl) ?_
              refine lv_icmp_ge (tgt := 68) hx hb dX8_lays_45 (by decide) (fun c_16 => ?_) (fun c_16 => ?_)
              · skip
                have c_16 := b_le (by omega) (by omega) c_16
                exact g_vret (Qr := (q_m_lays2 T n o u sum w0 g1 g2 g3 g4 tp w6 w7 w8 w9 w10 w11 w12 w13 w14 g15 w16 g17 w18 w19 g20 w21 g22 g23 g24 w25 w26 w27 g28 g29 w30 g31 g32 g33 fa fo fp)) hC V ⟨(Nat.le_of_ble_eq_true rfl), (Nat.le_of_ble_eq_true rfl)⟩ ⟨sum, fo, gb42, rfl, rfl, (fun _ _ => rfl)⟩ dX8_lays_68
              · skip
                have c_16 := b_nle (by omega) (by omega) c_16
                refine lv_aload_n hx hb dX8_lays_48 rfl (lv_at hl 1 rfl) ?_
                refine g_get hC V (ci := 8) uwX8 0 rfl rfl 29 (by decide) w_941 rfl rfl dX8_lays_49 ?_
                refine lv_iload hx hb dX8_lays_52 (lv_at hl 0 rfl) ?_
                refine lv_aload_n hx hb dX8_lays_54 rfl (lv_at hl 1 rfl) ?_
                refine g_get hC V (ci := 8) uwX8 0 rfl rfl 28 (by decide) w_940 rfl rfl dX8_lays_55 ?_
                refine lv_iload hx hb dX8_lays_58 (lv_at hl 0 rfl) ?_
                refine g_iald hC V 2 rfl (vp_in_nI (by omega) (by omega)) (v := (fo k42)) (congrArg _ (nI_clamp (by omega))) dX8_lays_60 ?_
                refine g_iast hC V 3 rfl (vp_in_nI (by omega) (by omega)) (f' := (upd gb42 k42 (fo k42))) (by rw [nI_clamp (by omega)]) (ws' := [(o, .inr (8, [.int w0, .ref g1, .ref g2, .ref g3, .ref g4, .int (nI tp), .int w6, .int w7, .int w8, .int w9, .int w10, .int w11, .int w12, .int w13, .int w14, .ref g15, .int w16, .ref g17, .int w18, .int w19, .ref g20, .int w21, .ref g22, .ref g23, .ref g24, .int w25, .int w26, .int w27, .ref g28, .ref g29, .int sum, .ref g31, .ref g32, .ref g33])), (g1, .inl (T 0, 282, .inl fa)), (g28, .inl (T 0, 7, .inl fo)), (g29, .inl (T 0, 7, .inl (upd gb42 k42 (fo k42))))]) rfl dX8_lays_61 (fun H locs V => ?_)
                refine lv_iinc (v := (nI (k42 + 1))) (lv' := [(4, .int (nI (k42 + 1))), (0, .ref o), (1, .int (nI 2)), (2, .int (nI u)), (3, .int sum)]) hx hb dX8_lays_62 hl (k := 0) rfl (nI_1 _) (by decide) rfl (fun ls hl => ?_)
                refine lv_goto (tgt := 42) hx hb dX8_lays_65 (by decide) ?_
                exact ih_42 (k42 + 1) (upd gb42 k42 (fo k42)) (by omega) (by omega) _ _ _ V (lv_sub hl [0, 1, 2, 3, 4] rfl)
          exact L_15 _ 0 fp (by omega) (Nat.lt_succ_self _) _ _ _ V (lv_sub hl [0, 1, 2, 3, 4] rfl)
        · skip
          exact g_vret (Qr := (q_m_lays2 T n o u sum w0 g1 g2 g3 g4 tp w6 w7 w8 w9 w10 w11 w12 w13 w14 g15 w16 g17 w18 w19 g20 w21 g22 g23 g24 w25 w26 w27 g28 g29 w30 g31 g32 g33 fa fo fp)) hC V ⟨(Nat.le_of_ble_eq_true rfl), (Nat.le_of_ble_eq_true rfl)⟩ ⟨w30, fo, fp, rfl, rfl, (fun _ _ => rfl)⟩ dX8_lays_33
    · have V : gW D T A s [(o, .inr (8, [.int w0, .ref g1, .ref g2, .ref g3, .ref g4, .int (nI tp), .int w6, .int w7, .int w8, .int w9, .int w10, .int w11, .int w12, .int w13, .int w14, .ref g15, .int w16, .ref g17, .int w18, .int w19, .ref g20, .int w21, .ref g22, .ref g23, .ref g24, .int w25, .int w26, .int w27, .ref g28, .ref g29, .int w30, .ref g31, .ref g32, .ref g33])), (g1, .inl (T 0, 282, .inl fa)), (g28, .inl (T 0, 7, .inl fo)), (g29, .inl (T 0, 7, .inl fp))] H locs := V _ [0, 0, 0] rfl rfl rfl (by decide +kernel) rfl
      show W p l e _ s m args below meth c H locs _ _ _ (F0 m 14 ls [.int (nI 0)])
      refine lv_if_eq (tgt := 33) hx hb dX8_lays_14 (by decide) (fun _ => ?_) (fun c => absurd (show (nI 0) = 0 by decide +kernel) c)
      exact g_vret (Qr := (q_m_lays2 T n o u sum w0 g1 g2 g3 g4 tp w6 w7 w8 w9 w10 w11 w12 w13 w14 g15 w16 g17 w18 w19 g20 w21 g22 g23 g24 w25 w26 w27 g28 g29 w30 g31 g32 g33 fa fo fp)) hC V ⟨(Nat.le_of_ble_eq_true rfl), (Nat.le_of_ble_eq_true rfl)⟩ ⟨w30, fo, fp, rfl, rfl, (fun _ _ => rfl)⟩ dX8_lays_33

def q_m_lays1 (T : Nat → ClassId) (n : Nat) (o : Nat) (u : Nat) (sum : Int32) (w0 : Int32) (g1 : Nat) (g2 : Nat) (g3 : Nat) (g4 : Nat) (tp : Nat) (w6 : Int32) (w7 : Int32) (w8 : Int32) (w9 : Int32) (w10 : Int32) (w11 : Int32) (w12 : Int32) (w13 : Int32) (w14 : Int32) (g15 : Nat) (w16 : Int32) (g17 : Nat) (w18 : Int32) (w19 : Int32) (g20 : Nat) (w21 : Int32) (g22 : Nat) (g23 : Nat) (g24 : Nat) (w25 : Int32) (w26 : Int32) (w27 : Int32) (g28 : Nat) (g29 : Nat) (w30 : Int32) (g31 : Nat) (g32 : Nat) (g33 : Nat) (fa : Nat → Int32) (fo : Nat → Int32) (fp : Nat → Int32) : Option Value → va_W → Prop := fun rr ww => (∃ (bs : Int32) (go : Nat → Int32) (gp : Nat → Int32), rr = none ∧ ww = [(o, .inr (8, [.int w0, .ref g1, .ref g2, .ref g3, .ref g4, .int (nI tp), .int w6, .int w7, .int w8, .int w9, .int w10, .int w11, .int w12, .int w13, .int w14, .ref g15, .int w16, .ref g17, .int w18, .int w19, .ref g20, .int w21, .ref g22, .ref g23, .ref g24, .int w25, .int w26, .int w27, .ref g28, .ref g29, .int bs, .ref g31, .ref g32, .ref g33])), (g1, .inl (T 0, 282, .inl fa)), (g28, .inl (T 0, 7, .inl go)), (g29, .inl (T 0, 7, .inl gp))] ∧ (∀ j, j < 1 → go j = fo j))
set_option maxHeartbeats 4000000 in
set_option maxRecDepth 100000 in
theorem m_lays1 (l : Launch) (D : va_G) (T : Nat → ClassId) (n : Nat) (o : Nat) (u : Nat) (sum : Int32) (w0 : Int32) (g1 : Nat) (g2 : Nat) (g3 : Nat) (g4 : Nat) (tp : Nat) (w6 : Int32) (w7 : Int32) (w8 : Int32) (w9 : Int32) (w10 : Int32) (w11 : Int32) (w12 : Int32) (w13 : Int32) (w14 : Int32) (g15 : Nat) (w16 : Int32) (g17 : Nat) (w18 : Int32) (w19 : Int32) (g20 : Nat) (w21 : Int32) (g22 : Nat) (g23 : Nat) (g24 : Nat) (w25 : Int32) (w26 : Int32) (w27 : Int32) (g28 : Nat) (g29 : Nat) (w30 : Int32) (g31 : Nat) (g32 : Nat) (g33 : Nat) (fa : Nat → Int32) (fo : Nat → Int32) (fp : Nat → Int32) (h_a : MI n fa) (h_li : LI 1 fo) (h_lt : ∀ j, j < 1 → toF fo j < n) (h_ub : UB 1 u fo) (h_1 : 1 ≤ n) (h_7 : n ≤ 7) (h_kn : 1 ≤ n) : Ct l yX8_lays cX8_lays 5 none 8 0 0 D T [.ref o, .int (nI 1), .int (nI u), .int sum] [(o, .inr (8, [.int w0, .ref g1, .ref g2, .ref g3, .ref g4, .int (nI tp), .int w6, .int w7, .int w8, .int w9, .int w10, .int w11, .int w12, .int w13, .int w14, .ref g15, .int w16, .ref g17, .int w18, .int w19, .ref g20, .int w21, .ref g22, .ref g23, .ref g24, .int w25, .int w26, .int w27, .ref g28, .ref g29, .int w30, .ref g31, .ref g32, .ref g33])), (g1, .inl (T 0, 282, .inl fa)), (g28, .inl (T 0, 7, .inl fo)), (g29, .inl (T 0, 7, .inl fp))] (q_m_lays1 T n o u sum w0 g1 g2 g3 g4 tp w6 w7 w8 w9 w10 w11 w12 w13 w14 g15 w16 g17 w18 w19 g20 w21 g22 g23 g24 w25 w26 w27 g28 g29 w30 g31 g32 g33 fa fo fp) := by
  refine Ct.of (cc := cX8_lays) (maxL := 5) (ret := none) (by decide) (Nat.le_of_ble_eq_true rfl) ?_
  intro p e s m args below meth c A ls hC hnm V hl
  obtain ⟨hx, hb, hr, hml, hown, hts, hlocks⟩ := id hC
  generalize hH : s.heap = H at V ⊢
  clear hH
  have hl : lv_has ls 5 [(0, .ref o), (1, .int (nI 1)), (2, .int (nI u)), (3, .int sum)] := hl
  generalize hlo : ([] : List Loc) = locs at V ⊢
  clear hlo
  have ms0 := ms_rf h_a
  have hn10 := h_a.1
  have hu := h_ub.1
  refine lv_iload_n hx hb dX8_lays_0 rfl (lv_at hl 1 rfl) ?_
  refine lv_aload_n hx hb dX8_lays_1 rfl (lv_at hl 0 rfl) ?_
  refine g_get hC V (ci := 8) uwX8 0 rfl rfl 1 (by decide) w_913 rfl rfl dX8_lays_2 ?_
  refine lv_iconst (v := (nI 0)) hx hb dX8_lays_5 (by decide +kernel) ?_
  refine g_iald hC V 1 rfl (vp_in_nI (by decide) (by decide)) (v := (nI n)) (by rw [nI_clamp (by decide)]; first | rfl | exact h_a.2.1) dX8_lays_6 ?_
  refine lv_icmp_ne (tgt := 69) hx hb dX8_lays_7 (by decide) (fun c_1 => ?_) (fun c_1 => ?_)
  · skip
    have c_1 := b_ne (by omega) (by omega) c_1
    refine lv_iconst (v := (nI 0)) hx hb dX8_lays_69 (by decide +kernel) ?_
    refine lv_istore (lv' := [(4, .int (nI 0)), (0, .ref o), (1, .int (nI 1)), (2, .int (nI u)), (3, .int sum)]) hx hb dX8_lays_70 hl (by decide) rfl (fun ls hl => ?_)
    have L_2 : ∀ (fu : Nat) (k72 : Nat) (bv : Int32) (f72 : Nat → Int32) (gb72 : Nat → Int32), k72 ≤ n → (∀ j, j < 1 → f72 j = fo j) → n - k72 < fu → ∀ (H : Heap) (locs : List Loc) (ls : Array Slot), gW D T A s [(o, .inr (8, [.int w0, .ref g1, .ref g2, .ref g3, .ref g4, .int (nI tp), .int w6, .int w7, .int w8, .int w9, .int w10, .int w11, .int w12, .int w13, .int w14, .ref g15, .int w16, .ref g17, .int w18, .int w19, .ref g20, .int w21, .ref g22, .ref g23, .ref g24, .int w25, .int w26, .int w27, .ref g28, .ref g29, .int bv, .ref g31, .ref g32, .ref g33])), (g1, .inl (T 0, 282, .inl fa)), (g28, .inl (T 0, 7, .inl f72)), (g29, .inl (T 0, 7, .inl gb72))] H locs → lv_has ls 5 [(4, .int (nI k72)), (0, .ref o), (1, .int (nI 1)), (2, .int (nI u)), (3, .int sum)] → W p l e (rmD 8 0 0) s m args below meth c H locs 0 0 (MQ below (gQ D A (q_m_lays1 T n o u sum w0 g1 g2 g3 g4 tp w6 w7 w8 w9 w10 w11 w12 w13 w14 g15 w16 g17 w18 w19 g20 w21 g22 g23 g24 w25 w26 w27 g28 g29 w30 g31 g32 g33 fa fo fp)) args s 0 0 A) (F0 m 72 ls []) := by
      intro fu_72
      induction fu_72 with
      | zero => intro k72 bv f72 gb72 hk72 hpre hmu; exact absurd hmu (Nat.not_lt_zero _)
      | succ fu_72 ih_72 =>
        intro k72 bv f72 gb72 hk72 hpre hmu_72 H locs ls V hl
        refine lv_iload hx hb dX8_lays_72 (lv_at hl 0 rfl) ?_
        refine lv_aload_n hx hb dX8_lays_74 rfl (lv_at hl 1 rfl) ?_
        refine g_get hC V (ci := 8) uwX8 0 rfl rfl 1 (by decide) w_913 rfl rfl dX8_lays_75 ?_
        refine lv_iconst (v := (nI 0)) hx hb dX8_lays_78 (by decide +kernel) ?_
        refine g_iald hC V 1 rfl (vp_in_nI (by decide) (by decide)) (v := (nI n)) (by rw [nI_clamp (by decide)]; first | rfl | exact h_a.2.1) dX8_lays_79 ?_
        refine lv_icmp_ge (tgt := 132) hx hb dX8_lays_80 (by decide) (fun c_3 => ?_) (fun c_3 => ?_)
        · skip
          have c_3 := b_le (by omega) (by omega) c_3
          exact g_vret (Qr := (q_m_lays1 T n o u sum w0 g1 g2 g3 g4 tp w6 w7 w8 w9 w10 w11 w12 w13 w14 g15 w16 g17 w18 w19 g20 w21 g22 g23 g24 w25 w26 w27 g28 g29 w30 g31 g32 g33 fa fo fp)) hC V ⟨(Nat.le_of_ble_eq_true rfl), (Nat.le_of_ble_eq_true rfl)⟩ ⟨bv, f72, gb72, rfl, rfl, hpre⟩ dX8_lays_132
        · skip
          have c_3 := b_nle (by omega) (by omega) c_3
          refine lv_iload_n hx hb dX8_lays_83 rfl (lv_at hl 3 rfl) ?_
          refine lv_i2l (v := (nI u).toInt64) hx hb dX8_lays_84 rfl ?_
          refine lv_iload hx hb dX8_lays_85 (lv_at hl 0 rfl) ?_
          refine g_callSU (nA := 2) hC V hl.1 (m_isIn7 l D T u k72 h_ub.1 (by omega)) w_1130 w_1131 w_9 w_1132 (by decide +kernel) rfl ⟨(Nat.le_of_ble_eq_true rfl), (Nat.le_of_ble_eq_true rfl)⟩ [] rfl rfl (Nat.le_of_ble_eq_true rfl) dX8_lays_87 ⟨(Nat.le_of_ble_eq_true rfl), (Nat.le_of_ble_eq_true rfl)⟩ rfl (fun r w1 H locs hQ V => ?_)
          rcases hQ with ⟨rfl, rfl, f_4⟩ | ⟨rfl, rfl, f_5⟩
          · have V : gW D T A s [(o, .inr (8, [.int w0, .ref g1, .ref g2, .ref g3, .ref g4, .int (nI tp), .int w6, .int w7, .int w8, .int w9, .int w10, .int w11, .int w12, .int w13, .int w14, .ref g15, .int w16, .ref g17, .int w18, .int w19, .ref g20, .int w21, .ref g22, .ref g23, .ref g24, .int w25, .int w26, .int w27, .ref g28, .ref g29, .int bv, .ref g31, .ref g32, .ref g33])), (g1, .inl (T 0, 282, .inl fa)), (g28, .inl (T 0, 7, .inl f72)), (g29, .inl (T 0, 7, .inl gb72))] H locs := V _ [] rfl rfl rfl (by decide +kernel) rfl
            show W p l e _ s m args below meth c H locs _ _ _ (F0 m 90 ls [.int (nI 1)])
            refine lv_if_eq (tgt := 96) hx hb dX8_lays_90 (by decide) (fun c => absurd (show (nI 1) = 0 from c) (by decide +kernel)) (fun _ => ?_)
            refine lv_goto (tgt := 126) hx hb dX8_lays_93 (by decide) ?_
            refine lv_iinc (v := (nI (k72 + 1))) (lv' := [(4, .int (nI (k72 + 1))), (0, .ref o), (1, .int (nI 1)), (2, .int (nI u)), (3, .int sum)]) hx hb dX8_lays_126 hl (k := 0) rfl (nI_1 _) (by decide) rfl (fun ls hl => ?_)
            refine lv_goto (tgt := 72) hx hb dX8_lays_129 (by decide) ?_
            exact ih_72 (k72 + 1) bv f72 gb72 (by omega) (by assumption) (by omega) _ _ _ V (lv_sub hl [0, 1, 2, 3, 4] rfl)
          · have V : gW D T A s [(o, .inr (8, [.int w0, .ref g1, .ref g2, .ref g3, .ref g4, .int (nI tp), .int w6, .int w7, .int w8, .int w9, .int w10, .int w11, .int w12, .int w13, .int w14, .ref g15, .int w16, .ref g17, .int w18, .int w19, .ref g20, .int w21, .ref g22, .ref g23, .ref g24, .int w25, .int w26, .int w27, .ref g28, .ref g29, .int bv, .ref g31, .ref g32, .ref g33])), (g1, .inl (T 0, 282, .inl fa)), (g28, .inl (T 0, 7, .inl f72)), (g29, .inl (T 0, 7, .inl gb72))] H locs := V _ [] rfl rfl rfl (by decide +kernel) rfl
            show W p l e _ s m args below meth c H locs _ _ _ (F0 m 90 ls [.int (nI 0)])
            refine lv_if_eq (tgt := 96) hx hb dX8_lays_90 (by decide) (fun _ => ?_) (fun c => absurd (show (nI 0) = 0 by decide +kernel) c)
            refine lv_aload_n hx hb dX8_lays_96 rfl (lv_at hl 1 rfl) ?_
            refine g_get hC V (ci := 8) uwX8 0 rfl rfl 28 (by decide) w_940 rfl rfl dX8_lays_97 ?_
            refine lv_iload_n hx hb dX8_lays_100 rfl (lv_at hl 2 rfl) ?_
            refine lv_iload hx hb dX8_lays_101 (lv_at hl 0 rfl) ?_
            refine g_iast hC V 2 rfl (vp_in_nI (by decide) (by decide)) (f' := (upd f72 1 (nI k72))) (by rw [nI_clamp (by decide)]) (ws' := [(o, .inr (8, [.int w0, .ref g1, .ref g2, .ref g3, .ref g4, .int (nI tp), .int w6, .int w7, .int w8, .int w9, .int w10, .int w11, .int w12, .int w13, .int w14, .ref g15, .int w16, .ref g17, .int w18, .int w19, .ref g20, .int w21, .ref g22, .ref g23, .ref g24, .int w25, .int w26, .int w27, .ref g28, .ref g29, .int bv, .ref g31, .ref g32, .ref g33])), (g1, .inl (T 0, 282, .inl fa)), (g28, .inl (T 0, 7, .inl (upd f72 1 (nI k72)))), (g29, .inl (T 0, 7, .inl gb72))]) rfl dX8_lays_103 (fun H locs V => ?_)
            refine lv_aload_n hx hb dX8_lays_104 rfl (lv_at hl 1 rfl) ?_
            refine lv_iload_n hx hb dX8_lays_105 rfl (lv_at hl 2 rfl) ?_
            refine lv_iconst (v := (nI 1)) hx hb dX8_lays_106 (by decide +kernel) ?_
            refine lv_iadd hx hb dX8_lays_107 ?_
            refine g_vi (y := (nI 2)) (by decide +kernel) ?_
            refine lv_iload_n hx hb dX8_lays_108 rfl (lv_at hl 3 rfl) ?_
            refine lv_iconst (v := (nI 1)) hx hb dX8_lays_109 (by decide +kernel) ?_
            refine lv_iload hx hb dX8_lays_110 (lv_at hl 0 rfl) ?_
            refine lv_ishl hx hb dX8_lays_112 ?_
            refine g_vi (y := (nI (2 ^ k72))) (shl_pow (by omega)) ?_
            refine lv_ior hx hb dX8_lays_113 ?_
            refine g_vi (y := nI (u ||| (2 ^ k72))) (or7 (by omega) (by omega)) ?_
            refine lv_iload_n hx hb dX8_lays_114 rfl (lv_at hl 4 rfl) ?_
            refine lv_aload_n hx hb dX8_lays_115 rfl (lv_at hl 1 rfl) ?_
            refine lv_iload_n hx hb dX8_lays_116 rfl (lv_at hl 2 rfl) ?_
            refine lv_iload hx hb dX8_lays_117 (lv_at hl 0 rfl) ?_
            refine g_callVU (nA := 2) hC V hl.1 (m_offBy l D T o 1 k72 w0 g1 g2 g3 g4 tp w6 w7 w8 w9 w10 w11 w12 w13 w14 g15 w16 g17 w18 w19 g20 w21 g22 g23 g24 w25 w26 w27 g28 g29 bv g31 g32 g33 fa (by first | assumption | omega) (by first | assumption | omega)) w_1328 w_1330 w_s77 w_9 w_1331 (by decide +kernel) rfl ⟨(Nat.le_of_ble_eq_true rfl), (Nat.le_of_ble_eq_true rfl)⟩ 0 (ci := 8) rfl rfl [0, 1] rfl rfl (Nat.le_of_ble_eq_true rfl) dX8_lays_119 ⟨(Nat.le_of_ble_eq_true rfl), (Nat.le_of_ble_eq_true rfl)⟩ rfl (fun r w1 H locs hQ V => ?_)
            obtain ⟨z_6, rfl, rfl⟩ := hQ
            have V : gW D T A s [(o, .inr (8, [.int w0, .ref g1, .ref g2, .ref g3, .ref g4, .int (nI tp), .int w6, .int w7, .int w8, .int w9, .int w10, .int w11, .int w12, .int w13, .int w14, .ref g15, .int w16, .ref g17, .int w18, .int w19, .ref g20, .int w21, .ref g22, .ref g23, .ref g24, .int w25, .int w26, .int w27, .ref g28, .ref g29, .int bv, .ref g31, .ref g32, .ref g33])), (g1, .inl (T 0, 282, .inl fa)), (g28, .inl (T 0, 7, .inl (upd f72 1 (nI k72)))), (g29, .inl (T 0, 7, .inl gb72))] H locs := V _ [0, 0] rfl rfl rfl (by decide +kernel) rfl
            show W p l e _ s m args below meth c H locs _ _ _ (F0 m 122 ls [.int z_6, .int sum, .int (nI (u ||| (2 ^ k72))), .int (nI 2), .ref o])
            refine lv_iadd hx hb dX8_lays_122 ?_
            refine g_callV (wr := []) (nA := 3) hC V hl.1 (m_lays2 l D T n o (u ||| (2 ^ k72)) (sum + z_6) w0 g1 g2 g3 g4 tp w6 w7 w8 w9 w10 w11 w12 w13 w14 g15 w16 g17 w18 w19 g20 w21 g22 g23 g24 w25 w26 w27 g28 g29 bv g31 g32 g33 fa (upd f72 1 (nI k72)) gb72 h_a (li_put (li_ext h_li hpre) (by omega) (ub_free (ub_ext h_ub hpre) (by assumption))) (lt_put h_lt hpre (by omega) h_7) (ub_put (ub_ext h_ub hpre) (by omega)) h_1 h_7 (by omega)) w_1320 w_1322 w_s75 w_9 w_1323 (by decide +kernel) rfl ⟨(Nat.le_of_ble_eq_true rfl), (Nat.le_of_ble_eq_true rfl)⟩ 0 (ci := 8) rfl rfl [0, 1, 2, 3] [] rfl rfl rfl rfl (by decide) (Nat.le_of_ble_eq_true rfl) dX8_lays_123 ⟨(Nat.le_of_ble_eq_true rfl), (Nat.le_of_ble_eq_true rfl)⟩ rfl (fun r w1 H locs hQ V => ?_)
            obtain ⟨bs_7, go_8, gp_9, rfl, rfl, f_10⟩ := hQ
            have V : gW D T A s [(o, .inr (8, [.int w0, .ref g1, .ref g2, .ref g3, .ref g4, .int (nI tp), .int w6, .int w7, .int w8, .int w9, .int w10, .int w11, .int w12, .int w13, .int w14, .ref g15, .int w16, .ref g17, .int w18, .int w19, .ref g20, .int w21, .ref g22, .ref g23, .ref g24, .int w25, .int w26, .int w27, .ref g28, .ref g29, .int bs_7, .ref g31, .ref g32, .ref g33])), (g1, .inl (T 0, 282, .inl fa)), (g28, .inl (T 0, 7, .inl go_8)), (g29, .inl (T 0, 7, .inl gp_9))] H locs := V
            show W p l e _ s m args below meth c H locs _ _ _ (F0 m 126 ls [])
            have hpre2 : ∀ j, j < 1 → go_8 j = fo j := fun j hj => (f_10 j (by omega)).trans ((up_other (by omega)).trans (hpre j hj))
            refine lv_iinc (v := (nI (k72 + 1))) (lv' := [(4, .int (nI (k72 + 1))), (0, .ref o), (1, .int (nI 1)), (2, .int (nI u)), (3, .int sum)]) hx hb dX8_lays_126 hl (k := 0) rfl (nI_1 _) (by decide) rfl (fun ls hl => ?_)
            refine lv_goto (tgt := 72) hx hb dX8_lays_129 (by decide) ?_
            exact ih_72 (k72 + 1) bs_7 go_8 gp_9 (by omega) (by assumption) (by omega) _ _ _ V (lv_sub hl [0, 1, 2, 3, 4] rfl)
    exact L_2 _ 0 w30 fo fp (by omega) (fun _ _ => rfl) (Nat.lt_succ_self _) _ _ _ V (lv_sub hl [0, 1, 2, 3, 4] rfl)
  · skip
    have c_1 := b_eq (by omega) (by omega) c_1
    have hkn : 1 = n := c_1
    refine lv_aload_n hx hb dX8_lays_10 rfl (lv_at hl 0 rfl) ?_
    refine g_callVU (nA := 0) hC V hl.1 (m_isOneRing l D T n o w0 g1 g2 g3 g4 tp w6 w7 w8 w9 w10 w11 w12 w13 w14 g15 w16 g17 w18 w19 g20 w21 g22 g23 g24 w25 w26 w27 g28 g29 w30 g31 g32 g33 fa fo h_a (lf_of h_li h_lt (by omega)) h_1 h_7) w_1324 w_1326 w_s76 w_9 w_1327 (by decide +kernel) rfl ⟨(Nat.le_of_ble_eq_true rfl), (Nat.le_of_ble_eq_true rfl)⟩ 0 (ci := 8) rfl rfl [0, 1, 2] rfl rfl (Nat.le_of_ble_eq_true rfl) dX8_lays_11 ⟨(Nat.le_of_ble_eq_true rfl), (Nat.le_of_ble_eq_true rfl)⟩ rfl (fun r w1 H locs hQ V => ?_)
    rcases hQ with ⟨rfl, rfl⟩ | ⟨rfl, rfl⟩
    · have V : gW D T A s [(o, .inr (8, [.int w0, .ref g1, .ref g2, .ref g3, .ref g4, .int (nI tp), .int w6, .int w7, .int w8, .int w9, .int w10, .int w11, .int w12, .int w13, .int w14, .ref g15, .int w16, .ref g17, .int w18, .int w19, .ref g20, .int w21, .ref g22, .ref g23, .ref g24, .int w25, .int w26, .int w27, .ref g28, .ref g29, .int w30, .ref g31, .ref g32, .ref g33])), (g1, .inl (T 0, 282, .inl fa)), (g28, .inl (T 0, 7, .inl fo)), (g29, .inl (T 0, 7, .inl fp))] H locs := V _ [0, 0, 0] rfl rfl rfl (by decide +kernel) rfl
      show W p l e _ s m args below meth c H locs _ _ _ (F0 m 14 ls [.int (nI 1)])
      refine lv_if_eq (tgt := 33) hx hb dX8_lays_14 (by decide) (fun c => absurd (show (nI 1) = 0 from c) (by decide +kernel)) (fun _ => ?_)
      refine lv_aload_n hx hb dX8_lays_17 rfl (lv_at hl 0 rfl) ?_
      refine g_get hC V (ci := 8) uwX8 0 rfl rfl 30 (by decide) w_942 rfl rfl dX8_lays_18 ?_
      refine lv_iconst (v := (-1)) hx hb dX8_lays_21 (by decide +kernel) ?_
      refine lv_icmp_eq (tgt := 34) hx hb dX8_lays_22 (by decide) (fun c_11 => ?_) (fun c_11 => ?_)
      · skip
        refine lv_aload_n hx hb dX8_lays_34 rfl (lv_at hl 0 rfl) ?_
        refine lv_iload_n hx hb dX8_lays_35 rfl (lv_at hl 3 rfl) ?_
        refine g_put hC V (ci := 8) uwX8 tyX8 tyX8_ok nmX8 0 rfl rfl 30 (by decide) w_942 rfl rfl rfl rfl (Nat.le_of_ble_eq_true rfl) (ws' := [(o, .inr (8, [.int w0, .ref g1, .ref g2, .ref g3, .ref g4, .int (nI tp), .int w6, .int w7, .int w8, .int w9, .int w10, .int w11, .int w12, .int w13, .int w14, .ref g15, .int w16, .ref g17, .int w18, .int w19, .ref g20, .int w21, .ref g22, .ref g23, .ref g24, .int w25, .int w26, .int w27, .ref g28, .ref g29, .int sum, .ref g31, .ref g32, .ref g33])), (g1, .inl (T 0, 282, .inl fa)), (g28, .inl (T 0, 7, .inl fo)), (g29, .inl (T 0, 7, .inl fp))]) rfl dX8_lays_36 (fun H locs V => ?_)
        refine lv_iconst (v := (nI 0)) hx hb dX8_lays_39 (by decide +kernel) ?_
        refine lv_istore (lv' := [(4, .int (nI 0)), (0, .ref o), (1, .int (nI 1)), (2, .int (nI u)), (3, .int sum)]) hx hb dX8_lays_40 hl (by decide) rfl (fun ls hl => ?_)
        have L_12 : ∀ (fu : Nat) (k42 : Nat) (gb42 : Nat → Int32), k42 ≤ 1 → 1 - k42 < fu → ∀ (H : Heap) (locs : List Loc) (ls : Array Slot), gW D T A s [(o, .inr (8, [.int w0, .ref g1, .ref g2, .ref g3, .ref g4, .int (nI tp), .int w6, .int w7, .int w8, .int w9, .int w10, .int w11, .int w12, .int w13, .int w14, .ref g15, .int w16, .ref g17, .int w18, .int w19, .ref g20, .int w21, .ref g22, .ref g23, .ref g24, .int w25, .int w26, .int w27, .ref g28, .ref g29, .int sum, .ref g31, .ref g32, .ref g33])), (g1, .inl (T 0, 282, .inl fa)), (g28, .inl (T 0, 7, .inl fo)), (g29, .inl (T 0, 7, .inl gb42))] H locs → lv_has ls 5 [(4, .int (nI k42)), (0, .ref o), (1, .int (nI 1)), (2, .int (nI u)), (3, .int sum)] → W p l e (rmD 8 0 0) s m args below meth c H locs 0 0 (MQ below (gQ D A (q_m_lays1 T n o u sum w0 g1 g2 g3 g4 tp w6 w7 w8 w9 w10 w11 w12 w13 w14 g15 w16 g17 w18 w19 g20 w21 g22 g23 g24 w25 w26 w27 g28 g29 w30 g31 g32 g33 fa fo fp)) args s 0 0 A) (F0 m 42 ls []) := by
          intro fu_42
          induction fu_42 with
          | zero => intro k42 gb42 hk42 hmu; exact absurd hmu (Nat.not_lt_zero _)
          | succ fu_42 ih_42 =>
            intro k42 gb42 hk42 hmu_42 H locs ls V hl
            refine lv_iload hx hb dX8_lays_42 (lv_at hl 0 rfl) ?_
            refine lv_iload_n hx hb dX8_lays_44 rfl (lv_at hl 2 rfl) ?_
            refine lv_icmp_ge (tgt := 68) hx hb dX8_lays_45 (by decide) (fun c_13 => ?_) (fun c_13 => ?_)
            · skip
              have c_13 := b_le (by omega) (by omega) c_13
              exact g_vret (Qr := (q_m_lays1 T n o u sum w0 g1 g2 g3 g4 tp w6 w7 w8 w9 w10 w11 w12 w13 w14 g15 w16 g17 w18 w19 g20 w21 g22 g23 g24 w25 w26 w27 g28 g29 w30 g31 g32 g33 fa fo fp)) hC V ⟨(Nat.le_of_ble_eq_true rfl), (Nat.le_of_ble_eq_true rfl)⟩ ⟨sum, fo, gb42, rfl, rfl, (fun _ _ => rfl)⟩ dX8_lays_68
            · skip
              have c_13 := b_nle (by omega) (by omega) c_13
              refine lv_aload_n hx hb dX8_lays_48 rfl (lv_at hl 1 rfl) ?_
              refine g_get hC V (ci := 8) uwX8 0 rfl rfl 29 (by decide) w_941 rfl rfl dX8_lays_49 ?_
              refine lv_iload hx hb dX8_lays_52 (lv_at hl 0 rfl) ?_
              refine lv_aload_n hx hb dX8_lays_54 rfl (lv_at hl 1 rfl) ?_
              refine g_get hC V (ci := 8) uwX8 0 rfl rfl 28 (by decide) w_940 rfl rfl dX8_lays_55 ?_
              refine lv_iload hx hb dX8_lays_58 (lv_at hl 0 rfl) ?_
              refine g_iald hC V 2 rfl (vp_in_nI (by omega) (by omega)) (v := (fo k42)) (congrArg _ (nI_clamp (by omega))) dX8_lays_60 ?_
              refine g_iast hC V 3 rfl (vp_in_nI (by omega) (by omega)) (f' := (upd gb42 k42 (fo k42))) (by rw [nI_clamp (by omega)]) (ws' := [(o, .inr (8, [.int w0, .ref g1, .ref g2, .ref g3, .ref g4, .int (nI tp), .int w6, .int w7, .int w8, .int w9, .int w10, .int w11, .int w12, .int w13, .int w14, .ref g15, .int w16, .ref g17, .int w18, .int w19, .ref g20, .int w21, .ref g22, .ref g23, .ref g24, .int w25, .int w26, .int w27, .ref g28, .ref g29, .int sum, .ref g31, .ref g32, .ref g33])), (g1, .inl (T 0, 282, .inl fa)), (g28, .inl (T 0, 7, .inl fo)), (g29, .inl (T 0, 7, .inl (upd gb42 k42 (fo k42))))]) rfl dX8_lays_61 (fun H locs V => ?_)
              refine lv_iinc (v := (nI (k42 + 1))) (lv' := [(4, .int (nI (k42 + 1))), (0, .ref o), (1, .int (nI 1)), (2, .int (nI u)), (3, .int sum)]) hx hb dX8_lays_62 hl (k := 0) rfl (nI_1 _) (by decide) rfl (fun ls hl => ?_)
              refine lv_goto (tgt := 42) hx hb dX8_lays_65 (by decide) ?_
              exact ih_42 (k42 + 1) (upd gb42 k42 (fo k42)) (by omega) (by omega) _ _ _ V (lv_sub hl [0, 1, 2, 3, 4] rfl)
        exact L_12 _ 0 fp (by omega) (Nat.lt_succ_self _) _ _ _ V (lv_sub hl [0, 1, 2, 3, 4] rfl)
      · skip
        refine lv_iload_n hx hb dX8_lays_25 rfl (lv_at hl 3 rfl) ?_
        refine lv_aload_n hx hb dX8_lays_26 rfl (lv_at hl 0 rfl) ?_
        refine g_get hC V (ci := 8) uwX8 0 rfl rfl 30 (by decide) w_942 rfl rfl dX8_lays_27 ?_
        refine lv_icmp_lt (tgt := 34) hx hb dX8_lays_30 (by decide) (fun c_14 => ?_) (fun c_14 => ?_)
        · skip
          refine lv_aload_n hx hb dX8_lays_34 rfl (lv_at hl 0 rfl) ?_
          refine lv_iload_n hx hb dX8_lays_35 rfl (lv_at hl 3 rfl) ?_
          refine g_put hC V (ci := 8) uwX8 tyX8 tyX8_ok nmX8 0 rfl rfl 30 (by decide) w_942 rfl rfl rfl rfl (Nat.le_of_ble_eq_true rfl) (ws' := [(o, .inr (8, [.int w0, .ref g1, .ref g2, .ref g3, .ref g4, .int (nI tp), .int w6, .int w7, .int w8, .int w9, .int w10, .int w11, .int w12, .int w13, .int w14, .ref g15, .int w16, .ref g17, .int w18, .int w19, .ref g20, .int w21, .ref g22, .ref g23, .ref g24, .int w25, .int w26, .int w27, .ref g28, .ref g29, .int sum, .ref g31, .ref g32, .ref g33])), (g1, .inl (T 0, 282, .inl fa)), (g28, .inl (T 0, 7, .inl fo)), (g29, .inl (T 0, 7, .inl fp))]) rfl dX8_lays_36 (fun H locs V => ?_)
          refine lv_iconst (v := (nI 0)) hx hb dX8_lays_39 (by decide +kernel) ?_
          refine lv_istore (lv' := [(4, .int (nI 0)), (0, .ref o), (1, .int (nI 1)), (2, .int (nI u)), (3, .int sum)]) hx hb dX8_lays_40 hl (by decide) rfl (fun ls hl => ?_)
          have L_15 : ∀ (fu : Nat) (k42 : Nat) (gb42 : Nat → Int32), k42 ≤ 1 → 1 - k42 < fu → ∀ (H : Heap) (locs : List Loc) (ls : Array Slot), gW D T A s [(o, .inr (8, [.int w0, .ref g1, .ref g2, .ref g3, .ref g4, .int (nI tp), .int w6, .int w7, .int w8, .int w9, .int w10, .int w11, .int w12, .int w13, .int w14, .ref g15, .int w16, .ref g17, .int w18, .int w19, .ref g20, .int w21, .ref g22, .ref g23, .ref g24, .int w25, .int w26, .int w27, .ref g28, .ref g29, .int sum, .ref g31, .ref g32, .ref g33])), (g1, .inl (T 0, 282, .inl fa)), (g28, .inl (T 0, 7, .inl fo)), (g29, .inl (T 0, 7, .inl gb42))] H locs → lv_has ls 5 [(4, .int (nI k42)), (0, .ref o), (1, .int (nI 1)), (2, .int (nI u)), (3, .int sum)] → W p l e (rmD 8 0 0) s m args below meth c H locs 0 0 (MQ below (gQ D A (q_m_lays1 T n o u sum w0 g1 g2 g3 g4 tp w6 w7 w8 w9 w10 w11 w12 w13 w14 g15 w16 g17 w18 w19 g20 w21 g22 g23 g24 w25 w26 w27 g28 g29 w30 g31 g32 g33 fa fo fp)) args s 0 0 A) (F0 m 42 ls []) := by
            intro fu_42
            induction fu_42 with
            | zero => intro k42 gb42 hk42 hmu; exact absurd hmu (Nat.not_lt_zero _)
            | succ fu_42 ih_42 =>
              intro k42 gb42 hk42 hmu_42 H locs ls V hl
              refine lv_iload hx hb dX8_lays_42 (lv_at hl 0 rfl) ?_
              refine lv_iload_n hx hb dX8_lays_44 rfl (lv_at hl 2 rfl) ?_
              refine lv_icmp_ge (tgt := 68) hx hb dX8_lays_45 (by decide) (fun c_16 => ?_) (fun c_16 => ?_)
              · skip
                have c_16 := b_le (by omega) (by omega) c_16
                exact g_vret (Qr := (q_m_lays1 T n o u sum w0 g1 g2 g3 g4 tp w6 w7 w8 w9 w10 w11 w12 w13 w14 g15 w16 g17 w18 w19 g20 w21 g22 g23 g24 w25 w26 w27 g28 g29 w30 g31 g32 g33 fa fo fp)) hC V ⟨(Nat.le_of_ble_eq_true rfl), (Nat.le_of_ble_eq_true rfl)⟩ ⟨sum, fo, gb42, rfl, rfl, (fun _ _ => rfl)⟩ dX8_lays_68
              · skip
                have c_16 := b_nle (by omega) (by omega) c_16
                refine lv_aload_n hx hb dX8_lays_48 rfl (lv_at hl 1 rfl) ?_
                refine g_get hC V (ci := 8) uwX8 0 rfl rfl 29 (by decide) w_941 rfl rfl dX8_lays_49 ?_
                refine lv_iload hx hb dX8_lays_52 (lv_at hl 0 rfl) ?_
                refine lv_aload_n hx hb dX8_lays_54 rfl (lv_at hl 1 rfl) ?_
                refine g_get hC V (ci := 8) uwX8 0 rfl rfl 28 (by decide) w_940 rfl rfl dX8_lays_55 ?_
                refine lv_iload hx hb dX8_lays_58 (lv_at hl 0 rfl) ?_
                refine g_iald hC V 2 rfl (vp_in_nI (by omega) (by omega)) (v := (fo k42)) (congrArg _ (nI_clamp (by omega))) dX8_lays_60 ?_
                refine g_iast hC V 3 rfl (vp_in_nI (by omega) (by omega)) (f' := (upd gb42 k42 (fo k42))) (by rw [nI_clamp (by omega)]) (ws' := [(o, .inr (8, [.int w0, .ref g1, .ref g2, .ref g3, .ref g4, .int (nI tp), .int w6, .int w7, .int w8, .int w9, .int w10, .int w11, .int w12, .int w13, .int w14, .ref g15, .int w16, .ref g17, .int w18, .int w19, .ref g20, .int w21, .ref g22, .ref g23, .ref g24, .int w25, .int w26, .int w27, .ref g28, .ref g29, .int sum, .ref g31, .ref g32, .ref g33])), (g1, .inl (T 0, 282, .inl fa)), (g28, .inl (T 0, 7, .inl fo)), (g29, .inl (T 0, 7, .inl (upd gb42 k42 (fo k42))))]) rfl dX8_lays_61 (fun H locs V => ?_)
                refine lv_iinc (v := (nI (k42 + 1))) (lv' := [(4, .int (nI (k42 + 1))), (0, .ref o), (1, .int (nI 1)), (2, .int (nI u)), (3, .int sum)]) hx hb dX8_lays_62 hl (k := 0) rfl (nI_1 _) (by decide) rfl (fun ls hl => ?_)
                refine lv_goto (tgt := 42) hx hb dX8_lays_65 (by decide) ?_
                exact ih_42 (k42 + 1) (upd gb42 k42 (fo k42)) (by omega) (by omega) _ _ _ V (lv_sub hl [0, 1, 2, 3, 4] rfl)
          exact L_15 _ 0 fp (by omega) (Nat.lt_succ_self _) _ _ _ V (lv_sub hl [0, 1, 2, 3, 4] rfl)
        · skip
          exact g_vret (Qr := (q_m_lays1 T n o u sum w0 g1 g2 g3 g4 tp w6 w7 w8 w9 w10 w11 w12 w13 w14 g15 w16 g17 w18 w19 g20 w21 g22 g23 g24 w25 w26 w27 g28 g29 w30 g31 g32 g33 fa fo fp)) hC V ⟨(Nat.le_of_ble_eq_true rfl), (Nat.le_of_ble_eq_true rfl)⟩ ⟨w30, fo, fp, rfl, rfl, (fun _ _ => rfl)⟩ dX8_lays_33
    · have V : gW D T A s [(o, .inr (8, [.int w0, .ref g1, .ref g2, .ref g3, .ref g4, .int (nI tp), .int w6, .int w7, .int w8, .int w9, .int w10, .int w11, .int w12, .int w13, .int w14, .ref g15, .int w16, .ref g17, .int w18, .int w19, .ref g20, .int w21, .ref g22, .ref g23, .ref g24, .int w25, .int w26, .int w27, .ref g28, .ref g29, .int w30, .ref g31, .ref g32, .ref g33])), (g1, .inl (T 0, 282, .inl fa)), (g28, .inl (T 0, 7, .inl fo)), (g29, .inl (T 0, 7, .inl fp))] H locs := V _ [0, 0, 0] rfl rfl rfl (by decide +kernel) rfl
      show W p l e _ s m args below meth c H locs _ _ _ (F0 m 14 ls [.int (nI 0)])
      refine lv_if_eq (tgt := 33) hx hb dX8_lays_14 (by decide) (fun _ => ?_) (fun c => absurd (show (nI 0) = 0 by decide +kernel) c)
      exact g_vret (Qr := (q_m_lays1 T n o u sum w0 g1 g2 g3 g4 tp w6 w7 w8 w9 w10 w11 w12 w13 w14 g15 w16 g17 w18 w19 g20 w21 g22 g23 g24 w25 w26 w27 g28 g29 w30 g31 g32 g33 fa fo fp)) hC V ⟨(Nat.le_of_ble_eq_true rfl), (Nat.le_of_ble_eq_true rfl)⟩ ⟨w30, fo, fp, rfl, rfl, (fun _ _ => rfl)⟩ dX8_lays_33

def q_m_lays0 (T : Nat → ClassId) (n : Nat) (o : Nat) (u : Nat) (sum : Int32) (w0 : Int32) (g1 : Nat) (g2 : Nat) (g3 : Nat) (g4 : Nat) (tp : Nat) (w6 : Int32) (w7 : Int32) (w8 : Int32) (w9 : Int32) (w10 : Int32) (w11 : Int32) (w12 : Int32) (w13 : Int32) (w14 : Int32) (g15 : Nat) (w16 : Int32) (g17 : Nat) (w18 : Int32) (w19 : Int32) (g20 : Nat) (w21 : Int32) (g22 : Nat) (g23 : Nat) (g24 : Nat) (w25 : Int32) (w26 : Int32) (w27 : Int32) (g28 : Nat) (g29 : Nat) (w30 : Int32) (g31 : Nat) (g32 : Nat) (g33 : Nat) (fa : Nat → Int32) (fo : Nat → Int32) (fp : Nat → Int32) : Option Value → va_W → Prop := fun rr ww => (∃ (bs : Int32) (go : Nat → Int32) (gp : Nat → Int32), rr = none ∧ ww = [(o, .inr (8, [.int w0, .ref g1, .ref g2, .ref g3, .ref g4, .int (nI tp), .int w6, .int w7, .int w8, .int w9, .int w10, .int w11, .int w12, .int w13, .int w14, .ref g15, .int w16, .ref g17, .int w18, .int w19, .ref g20, .int w21, .ref g22, .ref g23, .ref g24, .int w25, .int w26, .int w27, .ref g28, .ref g29, .int bs, .ref g31, .ref g32, .ref g33])), (g1, .inl (T 0, 282, .inl fa)), (g28, .inl (T 0, 7, .inl go)), (g29, .inl (T 0, 7, .inl gp))] ∧ (∀ j, j < 0 → go j = fo j))
set_option maxHeartbeats 4000000 in
set_option maxRecDepth 100000 in
theorem m_lays0 (l : Launch) (D : va_G) (T : Nat → ClassId) (n : Nat) (o : Nat) (u : Nat) (sum : Int32) (w0 : Int32) (g1 : Nat) (g2 : Nat) (g3 : Nat) (g4 : Nat) (tp : Nat) (w6 : Int32) (w7 : Int32) (w8 : Int32) (w9 : Int32) (w10 : Int32) (w11 : Int32) (w12 : Int32) (w13 : Int32) (w14 : Int32) (g15 : Nat) (w16 : Int32) (g17 : Nat) (w18 : Int32) (w19 : Int32) (g20 : Nat) (w21 : Int32) (g22 : Nat) (g23 : Nat) (g24 : Nat) (w25 : Int32) (w26 : Int32) (w27 : Int32) (g28 : Nat) (g29 : Nat) (w30 : Int32) (g31 : Nat) (g32 : Nat) (g33 : Nat) (fa : Nat → Int32) (fo : Nat → Int32) (fp : Nat → Int32) (h_a : MI n fa) (h_li : LI 0 fo) (h_lt : ∀ j, j < 0 → toF fo j < n) (h_ub : UB 0 u fo) (h_1 : 1 ≤ n) (h_7 : n ≤ 7) (h_kn : 0 ≤ n) : Ct l yX8_lays cX8_lays 5 none 9 0 0 D T [.ref o, .int (nI 0), .int (nI u), .int sum] [(o, .inr (8, [.int w0, .ref g1, .ref g2, .ref g3, .ref g4, .int (nI tp), .int w6, .int w7, .int w8, .int w9, .int w10, .int w11, .int w12, .int w13, .int w14, .ref g15, .int w16, .ref g17, .int w18, .int w19, .ref g20, .int w21, .ref g22, .ref g23, .ref g24, .int w25, .int w26, .int w27, .ref g28, .ref g29, .int w30, .ref g31, .ref g32, .ref g33])), (g1, .inl (T 0, 282, .inl fa)), (g28, .inl (T 0, 7, .inl fo)), (g29, .inl (T 0, 7, .inl fp))] (q_m_lays0 T n o u sum w0 g1 g2 g3 g4 tp w6 w7 w8 w9 w10 w11 w12 w13 w14 g15 w16 g17 w18 w19 g20 w21 g22 g23 g24 w25 w26 w27 g28 g29 w30 g31 g32 g33 fa fo fp) := by
  refine Ct.of (cc := cX8_lays) (maxL := 5) (ret := none) (by decide) (Nat.le_of_ble_eq_true rfl) ?_
  intro p e s m args below meth c A ls hC hnm V hl
  obtain ⟨hx, hb, hr, hml, hown, hts, hlocks⟩ := id hC
  generalize hH : s.heap = H at V ⊢
  clear hH
  have hl : lv_has ls 5 [(0, .ref o), (1, .int (nI 0)), (2, .int (nI u)), (3, .int sum)] := hl
  generalize hlo : ([] : List Loc) = locs at V ⊢
  clear hlo
  have ms0 := ms_rf h_a
  have hn10 := h_a.1
  have hu := h_ub.1
  refine lv_iload_n hx hb dX8_lays_0 rfl (lv_at hl 1 rfl) ?_
  refine lv_aload_n hx hb dX8_lays_1 rfl (lv_at hl 0 rfl) ?_
  refine g_get hC V (ci := 8) uwX8 0 rfl rfl 1 (by decide) w_913 rfl rfl dX8_lays_2 ?_
  refine lv_iconst (v := (nI 0)) hx hb dX8_lays_5 (by decide +kernel) ?_
  refine g_iald hC V 1 rfl (vp_in_nI (by decide) (by decide)) (v := (nI n)) (by rw [nI_clamp (by decide)]; first | rfl | exact h_a.2.1) dX8_lays_6 ?_
  refine lv_icmp_ne (tgt := 69) hx hb dX8_lays_7 (by decide) (fun c_1 => ?_) (fun c_1 => ?_)
  · skip
    have c_1 := b_ne (by omega) (by omega) c_1
    refine lv_iconst (v := (nI 0)) hx hb dX8_lays_69 (by decide +kernel) ?_
    refine lv_istore (lv' := [(4, .int (nI 0)), (0, .ref o), (1, .int (nI 0)), (2, .int (nI u)), (3, .int sum)]) hx hb dX8_lays_70 hl (by decide) rfl (fun ls hl => ?_)
    have L_2 : ∀ (fu : Nat) (k72 : Nat) (bv : Int32) (f72 : Nat → Int32) (gb72 : Nat → Int32), k72 ≤ n → (∀ j, j < 0 → f72 j = fo j) → n - k72 < fu → ∀ (H : Heap) (locs : List Loc) (ls : Array Slot), gW D T A s [(o, .inr (8, [.int w0, .ref g1, .ref g2, .ref g3, .ref g4, .int (nI tp), .int w6, .int w7, .int w8, .int w9, .int w10, .int w11, .int w12, .int w13, .int w14, .ref g15, .int w16, .ref g17, .int w18, .int w19, .ref g20, .int w21, .ref g22, .ref g23, .ref g24, .int w25, .int w26, .int w27, .ref g28, .ref g29, .int bv, .ref g31, .ref g32, .ref g33])), (g1, .inl (T 0, 282, .inl fa)), (g28, .inl (T 0, 7, .inl f72)), (g29, .inl (T 0, 7, .inl gb72))] H locs → lv_has ls 5 [(4, .int (nI k72)), (0, .ref o), (1, .int (nI 0)), (2, .int (nI u)), (3, .int sum)] → W p l e (rmD 9 0 0) s m args below meth c H locs 0 0 (MQ below (gQ D A (q_m_lays0 T n o u sum w0 g1 g2 g3 g4 tp w6 w7 w8 w9 w10 w11 w12 w13 w14 g15 w16 g17 w18 w19 g20 w21 g22 g23 g24 w25 w26 w27 g28 g29 w30 g31 g32 g33 fa fo fp)) args s 0 0 A) (F0 m 72 ls []) := by
      intro fu_72
      induction fu_72 with
      | zero => intro k72 bv f72 gb72 hk72 hpre hmu; exact absurd hmu (Nat.not_lt_zero _)
      | succ fu_72 ih_72 =>
        intro k72 bv f72 gb72 hk72 hpre hmu_72 H locs ls V hl
        refine lv_iload hx hb dX8_lays_72 (lv_at hl 0 rfl) ?_
        refine lv_aload_n hx hb dX8_lays_74 rfl (lv_at hl 1 rfl) ?_
        refine g_get hC V (ci := 8) uwX8 0 rfl rfl 1 (by decide) w_913 rfl rfl dX8_lays_75 ?_
        refine lv_iconst (v := (nI 0)) hx hb dX8_lays_78 (by decide +kernel) ?_
        refine g_iald hC V 1 rfl (vp_in_nI (by decide) (by decide)) (v := (nI n)) (by rw [nI_clamp (by decide)]; first | rfl | exact h_a.2.1) dX8_lays_79 ?_
        refine lv_icmp_ge (tgt := 132) hx hb dX8_lays_80 (by decide) (fun c_3 => ?_) (fun c_3 => ?_)
        · skip
          have c_3 := b_le (by omega) (by omega) c_3
          exact g_vret (Qr := (q_m_lays0 T n o u sum w0 g1 g2 g3 g4 tp w6 w7 w8 w9 w10 w11 w12 w13 w14 g15 w16 g17 w18 w19 g20 w21 g22 g23 g24 w25 w26 w27 g28 g29 w30 g31 g32 g33 fa fo fp)) hC V ⟨(Nat.le_of_ble_eq_true rfl), (Nat.le_of_ble_eq_true rfl)⟩ ⟨bv, f72, gb72, rfl, rfl, hpre⟩ dX8_lays_132
        · skip
          have c_3 := b_nle (by omega) (by omega) c_3
          refine lv_iload_n hx hb dX8_lays_83 rfl (lv_at hl 3 rfl) ?_
          refine lv_i2l (v := (nI u).toInt64) hx hb dX8_lays_84 rfl ?_
          refine lv_iload hx hb dX8_lays_85 (lv_at hl 0 rfl) ?_
          refine g_callSU (nA := 2) hC V hl.1 (m_isIn7 l D T u k72 h_ub.1 (by omega)) w_1130 w_1131 w_9 w_1132 (by decide +kernel) rfl ⟨(Nat.le_of_ble_eq_true rfl), (Nat.le_of_ble_eq_true rfl)⟩ [] rfl rfl (Nat.le_of_ble_eq_true rfl) dX8_lays_87 ⟨(Nat.le_of_ble_eq_true rfl), (Nat.le_of_ble_eq_true rfl)⟩ rfl (fun r w1 H locs hQ V => ?_)
          rcases hQ with ⟨rfl, rfl, f_4⟩ | ⟨rfl, rfl, f_5⟩
          · have V : gW D T A s [(o, .inr (8, [.int w0, .ref g1, .ref g2, .ref g3, .ref g4, .int (nI tp), .int w6, .int w7, .int w8, .int w9, .int w10, .int w11, .int w12, .int w13, .int w14, .ref g15, .int w16, .ref g17, .int w18, .int w19, .ref g20, .int w21, .ref g22, .ref g23, .ref g24, .int w25, .int w26, .int w27, .ref g28, .ref g29, .int bv, .ref g31, .ref g32, .ref g33])), (g1, .inl (T 0, 282, .inl fa)), (g28, .inl (T 0, 7, .inl f72)), (g29, .inl (T 0, 7, .inl gb72))] H locs := V _ [] rfl rfl rfl (by decide +kernel) rfl
            show W p l e _ s m args below meth c H locs _ _ _ (F0 m 90 ls [.int (nI 1)])
            refine lv_if_eq (tgt := 96) hx hb dX8_lays_90 (by decide) (fun c => absurd (show (nI 1) = 0 from c) (by decide +kernel)) (fun _ => ?_)
            refine lv_goto (tgt := 126) hx hb dX8_lays_93 (by decide) ?_
            refine lv_iinc (v := (nI (k72 + 1))) (lv' := [(4, .int (nI (k72 + 1))), (0, .ref o), (1, .int (nI 0)), (2, .int (nI u)), (3, .int sum)]) hx hb dX8_lays_126 hl (k := 0) rfl (nI_1 _) (by decide) rfl (fun ls hl => ?_)
            refine lv_goto (tgt := 72) hx hb dX8_lays_129 (by decide) ?_
            exact ih_72 (k72 + 1) bv f72 gb72 (by omega) (by assumption) (by omega) _ _ _ V (lv_sub hl [0, 1, 2, 3, 4] rfl)
          · have V : gW D T A s [(o, .inr (8, [.int w0, .ref g1, .ref g2, .ref g3, .ref g4, .int (nI tp), .int w6, .int w7, .int w8, .int w9, .int w10, .int w11, .int w12, .int w13, .int w14, .ref g15, .int w16, .ref g17, .int w18, .int w19, .ref g20, .int w21, .ref g22, .ref g23, .ref g24, .int w25, .int w26, .int w27, .ref g28, .ref g29, .int bv, .ref g31, .ref g32, .ref g33])), (g1, .inl (T 0, 282, .inl fa)), (g28, .inl (T 0, 7, .inl f72)), (g29, .inl (T 0, 7, .inl gb72))] H locs := V _ [] rfl rfl rfl (by decide +kernel) rfl
            show W p l e _ s m args below meth c H locs _ _ _ (F0 m 90 ls [.int (nI 0)])
            refine lv_if_eq (tgt := 96) hx hb dX8_lays_90 (by decide) (fun _ => ?_) (fun c => absurd (show (nI 0) = 0 by decide +kernel) c)
            refine lv_aload_n hx hb dX8_lays_96 rfl (lv_at hl 1 rfl) ?_
            refine g_get hC V (ci := 8) uwX8 0 rfl rfl 28 (by decide) w_940 rfl rfl dX8_lays_97 ?_
            refine lv_iload_n hx hb dX8_lays_100 rfl (lv_at hl 2 rfl) ?_
            refine lv_iload hx hb dX8_lays_101 (lv_at hl 0 rfl) ?_
            refine g_iast hC V 2 rfl (vp_in_nI (by decide) (by decide)) (f' := (upd f72 0 (nI k72))) (by rw [nI_clamp (by decide)]) (ws' := [(o, .inr (8, [.int w0, .ref g1, .ref g2, .ref g3, .ref g4, .int (nI tp), .int w6, .int w7, .int w8, .int w9, .int w10, .int w11, .int w12, .int w13, .int w14, .ref g15, .int w16, .ref g17, .int w18, .int w19, .ref g20, .int w21, .ref g22, .ref g23, .ref g24, .int w25, .int w26, .int w27, .ref g28, .ref g29, .int bv, .ref g31, .ref g32, .ref g33])), (g1, .inl (T 0, 282, .inl fa)), (g28, .inl (T 0, 7, .inl (upd f72 0 (nI k72)))), (g29, .inl (T 0, 7, .inl gb72))]) rfl dX8_lays_103 (fun H locs V => ?_)
            refine lv_aload_n hx hb dX8_lays_104 rfl (lv_at hl 1 rfl) ?_
            refine lv_iload_n hx hb dX8_lays_105 rfl (lv_at hl 2 rfl) ?_
            refine lv_iconst (v := (nI 1)) hx hb dX8_lays_106 (by decide +kernel) ?_
            refine lv_iadd hx hb dX8_lays_107 ?_
            refine g_vi (y := (nI 1)) (by decide +kernel) ?_
            refine lv_iload_n hx hb dX8_lays_108 rfl (lv_at hl 3 rfl) ?_
            refine lv_iconst (v := (nI 1)) hx hb dX8_lays_109 (by decide +kernel) ?_
            refine lv_iload hx hb dX8_lays_110 (lv_at hl 0 rfl) ?_
            refine lv_ishl hx hb dX8_lays_112 ?_
            refine g_vi (y := (nI (2 ^ k72))) (shl_pow (by omega)) ?_
            refine lv_ior hx hb dX8_lays_113 ?_
            refine g_vi (y := nI (u ||| (2 ^ k72))) (or7 (by omega) (by omega)) ?_
            refine lv_iload_n hx hb dX8_lays_114 rfl (lv_at hl 4 rfl) ?_
            refine lv_aload_n hx hb dX8_lays_115 rfl (lv_at hl 1 rfl) ?_
            refine lv_iload_n hx hb dX8_lays_116 rfl (lv_at hl 2 rfl) ?_
            refine lv_iload hx hb dX8_lays_117 (lv_at hl 0 rfl) ?_
            refine g_callVU (nA := 2) hC V hl.1 (m_offBy l D T o 0 k72 w0 g1 g2 g3 g4 tp w6 w7 w8 w9 w10 w11 w12 w13 w14 g15 w16 g17 w18 w19 g20 w21 g22 g23 g24 w25 w26 w27 g28 g29 bv g31 g32 g33 fa (by first | assumption | omega) (by first | assumption | omega)) w_1328 w_1330 w_s77 w_9 w_1331 (by decide +kernel) rfl ⟨(Nat.le_of_ble_eq_true rfl), (Nat.le_of_ble_eq_true rfl)⟩ 0 (ci := 8) rfl rfl [0, 1] rfl rfl (Nat.le_of_ble_eq_true rfl) dX8_lays_119 ⟨(Nat.le_of_ble_eq_true rfl), (Nat.le_of_ble_eq_true rfl)⟩ rfl (fun r w1 H locs hQ V => ?_)
            obtain ⟨z_6, rfl, rfl⟩ := hQ
            have V : gW D T A s [(o, .inr (8, [.int w0, .ref g1, .ref g2, .ref g3, .ref g4, .int (nI tp), .int w6, .int w7, .int w8, .int w9, .int w10, .int w11, .int w12, .int w13, .int w14, .ref g15, .int w16, .ref g17, .int w18, .int w19, .ref g20, .int w21, .ref g22, .ref g23, .ref g24, .int w25, .int w26, .int w27, .ref g28, .ref g29, .int bv, .ref g31, .ref g32, .ref g33])), (g1, .inl (T 0, 282, .inl fa)), (g28, .inl (T 0, 7, .inl (upd f72 0 (nI k72)))), (g29, .inl (T 0, 7, .inl gb72))] H locs := V _ [0, 0] rfl rfl rfl (by decide +kernel) rfl
            show W p l e _ s m args below meth c H locs _ _ _ (F0 m 122 ls [.int z_6, .int sum, .int (nI (u ||| (2 ^ k72))), .int (nI 1), .ref o])
            refine lv_iadd hx hb dX8_lays_122 ?_
            refine g_callV (wr := []) (nA := 3) hC V hl.1 (m_lays1 l D T n o (u ||| (2 ^ k72)) (sum + z_6) w0 g1 g2 g3 g4 tp w6 w7 w8 w9 w10 w11 w12 w13 w14 g15 w16 g17 w18 w19 g20 w21 g22 g23 g24 w25 w26 w27 g28 g29 bv g31 g32 g33 fa (upd f72 0 (nI k72)) gb72 h_a (li_put (li_ext h_li hpre) (by omega) (ub_free (ub_ext h_ub hpre) (by assumption))) (lt_put h_lt hpre (by omega) h_7) (ub_put (ub_ext h_ub hpre) (by omega)) h_1 h_7 (by omega)) w_1320 w_1322 w_s75 w_9 w_1323 (by decide +kernel) rfl ⟨(Nat.le_of_ble_eq_true rfl), (Nat.le_of_ble_eq_true rfl)⟩ 0 (ci := 8) rfl rfl [0, 1, 2, 3] [] rfl rfl rfl rfl (by decide) (Nat.le_of_ble_eq_true rfl) dX8_lays_123 ⟨(Nat.le_of_ble_eq_true rfl), (Nat.le_of_ble_eq_true rfl)⟩ rfl (fun r w1 H locs hQ V => ?_)
            obtain ⟨bs_7, go_8, gp_9, rfl, rfl, f_10⟩ := hQ
            have V : gW D T A s [(o, .inr (8, [.int w0, .ref g1, .ref g2, .ref g3, .ref g4, .int (nI tp), .int w6, .int w7, .int w8, .int w9, .int w10, .int w11, .int w12, .int w13, .int w14, .ref g15, .int w16, .ref g17, .int w18, .int w19, .ref g20, .int w21, .ref g22, .ref g23, .ref g24, .int w25, .int w26, .int w27, .ref g28, .ref g29, .int bs_7, .ref g31, .ref g32, .ref g33])), (g1, .inl (T 0, 282, .inl fa)), (g28, .inl (T 0, 7, .inl go_8)), (g29, .inl (T 0, 7, .inl gp_9))] H locs := V
            show W p l e _ s m args below meth c H locs _ _ _ (F0 m 126 ls [])
            have hpre2 : ∀ j, j < 0 → go_8 j = fo j := fun j hj => (f_10 j (by omega)).trans ((up_other (by omega)).trans (hpre j hj))
            refine lv_iinc (v := (nI (k72 + 1))) (lv' := [(4, .int (nI (k72 + 1))), (0, .ref o), (1, .int (nI 0)), (2, .int (nI u)), (3, .int sum)]) hx hb dX8_lays_126 hl (k := 0) rfl (nI_1 _) (by decide) rfl (fun ls hl => ?_)
            refine lv_goto (tgt := 72) hx hb dX8_lays_129 (by decide) ?_
            exact ih_72 (k72 + 1) bs_7 go_8 gp_9 (by omega) (by assumption) (by omega) _ _ _ V (lv_sub hl [0, 1, 2, 3, 4] rfl)
    exact L_2 _ 0 w30 fo fp (by omega) (fun _ _ => rfl) (Nat.lt_succ_self _) _ _ _ V (lv_sub hl [0, 1, 2, 3, 4] rfl)
  · skip
    have c_1 := b_eq (by omega) (by omega) c_1
    have hkn : 0 = n := c_1
    refine lv_aload_n hx hb dX8_lays_10 rfl (lv_at hl 0 rfl) ?_
    refine g_callVU (nA := 0) hC V hl.1 (m_isOneRing l D T n o w0 g1 g2 g3 g4 tp w6 w7 w8 w9 w10 w11 w12 w13 w14 g15 w16 g17 w18 w19 g20 w21 g22 g23 g24 w25 w26 w27 g28 g29 w30 g31 g32 g33 fa fo h_a (lf_of h_li h_lt (by omega)) h_1 h_7) w_1324 w_1326 w_s76 w_9 w_1327 (by decide +kernel) rfl ⟨(Nat.le_of_ble_eq_true rfl), (Nat.le_of_ble_eq_true rfl)⟩ 0 (ci := 8) rfl rfl [0, 1, 2] rfl rfl (Nat.le_of_ble_eq_true rfl) dX8_lays_11 ⟨(Nat.le_of_ble_eq_true rfl), (Nat.le_of_ble_eq_true rfl)⟩ rfl (fun r w1 H locs hQ V => ?_)
    rcases hQ with ⟨rfl, rfl⟩ | ⟨rfl, rfl⟩
    · have V : gW D T A s [(o, .inr (8, [.int w0, .ref g1, .ref g2, .ref g3, .ref g4, .int (nI tp), .int w6, .int w7, .int w8, .int w9, .int w10, .int w11, .int w12, .int w13, .int w14, .ref g15, .int w16, .ref g17, .int w18, .int w19, .ref g20, .int w21, .ref g22, .ref g23, .ref g24, .int w25, .int w26, .int w27, .ref g28, .ref g29, .int w30, .ref g31, .ref g32, .ref g33])), (g1, .inl (T 0, 282, .inl fa)), (g28, .inl (T 0, 7, .inl fo)), (g29, .inl (T 0, 7, .inl fp))] H locs := V _ [0, 0, 0] rfl rfl rfl (by decide +kernel) rfl
      show W p l e _ s m args below meth c H locs _ _ _ (F0 m 14 ls [.int (nI 1)])
      refine lv_if_eq (tgt := 33) hx hb dX8_lays_14 (by decide) (fun c => absurd (show (nI 1) = 0 from c) (by decide +kernel)) (fun _ => ?_)
      refine lv_aload_n hx hb dX8_lays_17 rfl (lv_at hl 0 rfl) ?_
      refine g_get hC V (ci := 8) uwX8 0 rfl rfl 30 (by decide) w_942 rfl rfl dX8_lays_18 ?_
      refine lv_iconst (v := (-1)) hx hb dX8_lays_21 (by decide +kernel) ?_
      refine lv_icmp_eq (tgt := 34) hx hb dX8_lays_22 (by decide) (fun c_11 => ?_) (fun c_11 => ?_)
      · skip
        refine lv_aload_n hx hb dX8_lays_34 rfl (lv_at hl 0 rfl) ?_
        refine lv_iload_n hx hb dX8_lays_35 rfl (lv_at hl 3 rfl) ?_
        refine g_put hC V (ci := 8) uwX8 tyX8 tyX8_ok nmX8 0 rfl rfl 30 (by decide) w_942 rfl rfl rfl rfl (Nat.le_of_ble_eq_true rfl) (ws' := [(o, .inr (8, [.int w0, .ref g1, .ref g2, .ref g3, .ref g4, .int (nI tp), .int w6, .int w7, .int w8, .int w9, .int w10, .int w11, .int w12, .int w13, .int w14, .ref g15, .int w16, .ref g17, .int w18, .int w19, .ref g20, .int w21, .ref g22, .ref g23, .ref g24, .int w25, .int w26, .int w27, .ref g28, .ref g29, .int sum, .ref g31, .ref g32, .ref g33])), (g1, .inl (T 0, 282, .inl fa)), (g28, .inl (T 0, 7, .inl fo)), (g29, .inl (T 0, 7, .inl fp))]) rfl dX8_lays_36 (fun H locs V => ?_)
        refine lv_iconst (v := (nI 0)) hx hb dX8_lays_39 (by decide +kernel) ?_
        refine lv_istore (lv' := [(4, .int (nI 0)), (0, .ref o), (1, .int (nI 0)), (2, .int (nI u)), (3, .int sum)]) hx hb dX8_lays_40 hl (by decide) rfl (fun ls hl => ?_)
        have L_12 : ∀ (fu : Nat) (k42 : Nat) (gb42 : Nat → Int32), k42 ≤ 0 → 0 - k42 < fu → ∀ (H : Heap) (locs : List Loc) (ls : Array Slot), gW D T A s [(o, .inr (8, [.int w0, .ref g1, .ref g2, .ref g3, .ref g4, .int (nI tp), .int w6, .int w7, .int w8, .int w9, .int w10, .int w11, .int w12, .int w13, .int w14, .ref g15, .int w16, .ref g17, .int w18, .int w19, .ref g20, .int w21, .ref g22, .ref g23, .ref g24, .int w25, .int w26, .int w27, .ref g28, .ref g29, .int sum, .ref g31, .ref g32, .ref g33])), (g1, .inl (T 0, 282, .inl fa)), (g28, .inl (T 0, 7, .inl fo)), (g29, .inl (T 0, 7, .inl gb42))] H locs → lv_has ls 5 [(4, .int (nI k42)), (0, .ref o), (1, .int (nI 0)), (2, .int (nI u)), (3, .int sum)] → W p l e (rmD 9 0 0) s m args below meth c H locs 0 0 (MQ below (gQ D A (q_m_lays0 T n o u sum w0 g1 g2 g3 g4 tp w6 w7 w8 w9 w10 w11 w12 w13 w14 g15 w16 g17 w18 w19 g20 w21 g22 g23 g24 w25 w26 w27 g28 g29 w30 g31 g32 g33 fa fo fp)) args s 0 0 A) (F0 m 42 ls []) := by
          intro fu_42
          induction fu_42 with
          | zero => intro k42 gb42 hk42 hmu; exact absurd hmu (Nat.not_lt_zero _)
          | succ fu_42 ih_42 =>
            intro k42 gb42 hk42 hmu_42 H locs ls V hl
            refine lv_iload hx hb dX8_lays_42 (lv_at hl 0 rfl) ?_
            refine lv_iload_n hx hb dX8_lays_44 rfl (lv_at hl 2 rfl) ?_
            refine lv_icmp_ge (tgt := 68) hx hb dX8_lays_45 (by decide) (fun c_13 => ?_) (fun c_13 => ?_)
            · skip
              have c_13 := b_le (by omega) (by omega) c_13
              exact g_vret (Qr := (q_m_lays0 T n o u sum w0 g1 g2 g3 g4 tp w6 w7 w8 w9 w10 w11 w12 w13 w14 g15 w16 g17 w18 w19 g20 w21 g22 g23 g24 w25 w26 w27 g28 g29 w30 g31 g32 g33 fa fo fp)) hC V ⟨(Nat.le_of_ble_eq_true rfl), (Nat.le_of_ble_eq_true rfl)⟩ ⟨sum, fo, gb42, rfl, rfl, (fun _ _ => rfl)⟩ dX8_lays_68
            · skip
              have c_13 := b_nle (by omega) (by omega) c_13
              refine lv_aload_n hx hb dX8_lays_48 rfl (lv_at hl 1 rfl) ?_
              refine g_get hC V (ci := 8) uwX8 0 rfl rfl 29 (by decide) w_941 rfl rfl dX8_lays_49 ?_
              refine lv_iload hx hb dX8_lays_52 (lv_at hl 0 rfl) ?_
              refine lv_aload_n hx hb dX8_lays_54 rfl (lv_at hl 1 rfl) ?_
              refine g_get hC V (ci := 8) uwX8 0 rfl rfl 28 (by decide) w_940 rfl rfl dX8_lays_55 ?_
              refine lv_iload hx hb dX8_lays_58 (lv_at hl 0 rfl) ?_
              refine g_iald hC V 2 rfl (vp_in_nI (by omega) (by omega)) (v := (fo k42)) (congrArg _ (nI_clamp (by omega))) dX8_lays_60 ?_
              refine g_iast hC V 3 rfl (vp_in_nI (by omega) (by omega)) (f' := (upd gb42 k42 (fo k42))) (by rw [nI_clamp (by omega)]) (ws' := [(o, .inr (8, [.int w0, .ref g1, .ref g2, .ref g3, .ref g4, .int (nI tp), .int w6, .int w7, .int w8, .int w9, .int w10, .int w11, .int w12, .int w13, .int w14, .ref g15, .int w16, .ref g17, .int w18, .int w19, .ref g20, .int w21, .ref g22, .ref g23, .ref g24, .int w25, .int w26, .int w27, .ref g28, .ref g29, .int sum, .ref g31, .ref g32, .ref g33])), (g1, .inl (T 0, 282, .inl fa)), (g28, .inl (T 0, 7, .inl fo)), (g29, .inl (T 0, 7, .inl (upd gb42 k42 (fo k42))))]) rfl dX8_lays_61 (fun H locs V => ?_)
              refine lv_iinc (v := (nI (k42 + 1))) (lv' := [(4, .int (nI (k42 + 1))), (0, .ref o), (1, .int (nI 0)), (2, .int (nI u)), (3, .int sum)]) hx hb dX8_lays_62 hl (k := 0) rfl (nI_1 _) (by decide) rfl (fun ls hl => ?_)
              refine lv_goto (tgt := 42) hx hb dX8_lays_65 (by decide) ?_
              exact ih_42 (k42 + 1) (upd gb42 k42 (fo k42)) (by omega) (by omega) _ _ _ V (lv_sub hl [0, 1, 2, 3, 4] rfl)
        exact L_12 _ 0 fp (by omega) (Nat.lt_succ_self _) _ _ _ V (lv_sub hl [0, 1, 2, 3, 4] rfl)
      · skip
        refine lv_iload_n hx hb dX8_lays_25 rfl (lv_at hl 3 rfl) ?_
        refine lv_aload_n hx hb dX8_lays_26 rfl (lv_at hl 0 rfl) ?_
        refine g_get hC V (ci := 8) uwX8 0 rfl rfl 30 (by decide) w_942 rfl rfl dX8_lays_27 ?_
        refine lv_icmp_lt (tgt := 34) hx hb dX8_lays_30 (by decide) (fun c_14 => ?_) (fun c_14 => ?_)
        · skip
          refine lv_aload_n hx hb dX8_lays_34 rfl (lv_at hl 0 rfl) ?_
          refine lv_iload_n hx hb dX8_lays_35 rfl (lv_at hl 3 rfl) ?_
          refine g_put hC V (ci := 8) uwX8 tyX8 tyX8_ok nmX8 0 rfl rfl 30 (by decide) w_942 rfl rfl rfl rfl (Nat.le_of_ble_eq_true rfl) (ws' := [(o, .inr (8, [.int w0, .ref g1, .ref g2, .ref g3, .ref g4, .int (nI tp), .int w6, .int w7, .int w8, .int w9, .int w10, .int w11, .int w12, .int w13, .int w14, .ref g15, .int w16, .ref g17, .int w18, .int w19, .ref g20, .int w21, .ref g22, .ref g23, .ref g24, .int w25, .int w26, .int w27, .ref g28, .ref g29, .int sum, .ref g31, .ref g32, .ref g33])), (g1, .inl (T 0, 282, .inl fa)), (g28, .inl (T 0, 7, .inl fo)), (g29, .inl (T 0, 7, .inl fp))]) rfl dX8_lays_36 (fun H locs V => ?_)
          refine lv_iconst (v := (nI 0)) hx hb dX8_lays_39 (by decide +kernel) ?_
          refine lv_istore (lv' := [(4, .int (nI 0)), (0, .ref o), (1, .int (nI 0)), (2, .int (nI u)), (3, .int sum)]) hx hb dX8_lays_40 hl (by decide) rfl (fun ls hl => ?_)
          have L_15 : ∀ (fu : Nat) (k42 : Nat) (gb42 : Nat → Int32), k42 ≤ 0 → 0 - k42 < fu → ∀ (H : Heap) (locs : List Loc) (ls : Array Slot), gW D T A s [(o, .inr (8, [.int w0, .ref g1, .ref g2, .ref g3, .ref g4, .int (nI tp), .int w6, .int w7, .int w8, .int w9, .int w10, .int w11, .int w12, .int w13, .int w14, .ref g15, .int w16, .ref g17, .int w18, .int w19, .ref g20, .int w21, .ref g22, .ref g23, .ref g24, .int w25, .int w26, .int w27, .ref g28, .ref g29, .int sum, .ref g31, .ref g32, .ref g33])), (g1, .inl (T 0, 282, .inl fa)), (g28, .inl (T 0, 7, .inl fo)), (g29, .inl (T 0, 7, .inl gb42))] H locs → lv_has ls 5 [(4, .int (nI k42)), (0, .ref o), (1, .int (nI 0)), (2, .int (nI u)), (3, .int sum)] → W p l e (rmD 9 0 0) s m args below meth c H locs 0 0 (MQ below (gQ D A (q_m_lays0 T n o u sum w0 g1 g2 g3 g4 tp w6 w7 w8 w9 w10 w11 w12 w13 w14 g15 w16 g17 w18 w19 g20 w21 g22 g23 g24 w25 w26 w27 g28 g29 w30 g31 g32 g33 fa fo fp)) args s 0 0 A) (F0 m 42 ls []) := by
            intro fu_42
            induction fu_42 with
            | zero => intro k42 gb42 hk42 hmu; exact absurd hmu (Nat.not_lt_zero _)
            | succ fu_42 ih_42 =>
              intro k42 gb42 hk42 hmu_42 H locs ls V hl
              refine lv_iload hx hb dX8_lays_42 (lv_at hl 0 rfl) ?_
              refine lv_iload_n hx hb dX8_lays_44 rfl (lv_at hl 2 rfl) ?_
              refine lv_icmp_ge (tgt := 68) hx hb dX8_lays_45 (by decide) (fun c_16 => ?_) (fun c_16 => ?_)
              · skip
                have c_16 := b_le (by omega) (by omega) c_16
                exact g_vret (Qr := (q_m_lays0 T n o u sum w0 g1 g2 g3 g4 tp w6 w7 w8 w9 w10 w11 w12 w13 w14 g15 w16 g17 w18 w19 g20 w21 g22 g23 g24 w25 w26 w27 g28 g29 w30 g31 g32 g33 fa fo fp)) hC V ⟨(Nat.le_of_ble_eq_true rfl), (Nat.le_of_ble_eq_true rfl)⟩ ⟨sum, fo, gb42, rfl, rfl, (fun _ _ => rfl)⟩ dX8_lays_68
              · skip
                have c_16 := b_nle (by omega) (by omega) c_16
                refine lv_aload_n hx hb dX8_lays_48 rfl (lv_at hl 1 rfl) ?_
                refine g_get hC V (ci := 8) uwX8 0 rfl rfl 29 (by decide) w_941 rfl rfl dX8_lays_49 ?_
                refine lv_iload hx hb dX8_lays_52 (lv_at hl 0 rfl) ?_
                refine lv_aload_n hx hb dX8_lays_54 rfl (lv_at hl 1 rfl) ?_
                refine g_get hC V (ci := 8) uwX8 0 rfl rfl 28 (by decide) w_940 rfl rfl dX8_lays_55 ?_
                refine lv_iload hx hb dX8_lays_58 (lv_at hl 0 rfl) ?_
                refine g_iald hC V 2 rfl (vp_in_nI (by omega) (by omega)) (v := (fo k42)) (congrArg _ (nI_clamp (by omega))) dX8_lays_60 ?_
                refine g_iast hC V 3 rfl (vp_in_nI (by omega) (by omega)) (f' := (upd gb42 k42 (fo k42))) (by rw [nI_clamp (by omega)]) (ws' := [(o, .inr (8, [.int w0, .ref g1, .ref g2, .ref g3, .ref g4, .int (nI tp), .int w6, .int w7, .int w8, .int w9, .int w10, .int w11, .int w12, .int w13, .int w14, .ref g15, .int w16, .ref g17, .int w18, .int w19, .ref g20, .int w21, .ref g22, .ref g23, .ref g24, .int w25, .int w26, .int w27, .ref g28, .ref g29, .int sum, .ref g31, .ref g32, .ref g33])), (g1, .inl (T 0, 282, .inl fa)), (g28, .inl (T 0, 7, .inl fo)), (g29, .inl (T 0, 7, .inl (upd gb42 k42 (fo k42))))]) rfl dX8_lays_61 (fun H locs V => ?_)
                refine lv_iinc (v := (nI (k42 + 1))) (lv' := [(4, .int (nI (k42 + 1))), (0, .ref o), (1, .int (nI 0)), (2, .int (nI u)), (3, .int sum)]) hx hb dX8_lays_62 hl (k := 0) rfl (nI_1 _) (by decide) rfl (fun ls hl => ?_)
                refine lv_goto (tgt := 42) hx hb dX8_lays_65 (by decide) ?_
                exact ih_42 (k42 + 1) (upd gb42 k42 (fo k42)) (by omega) (by omega) _ _ _ V (lv_sub hl [0, 1, 2, 3, 4] rfl)
          exact L_15 _ 0 fp (by omega) (Nat.lt_succ_self _) _ _ _ V (lv_sub hl [0, 1, 2, 3, 4] rfl)
        · skip
          exact g_vret (Qr := (q_m_lays0 T n o u sum w0 g1 g2 g3 g4 tp w6 w7 w8 w9 w10 w11 w12 w13 w14 g15 w16 g17 w18 w19 g20 w21 g22 g23 g24 w25 w26 w27 g28 g29 w30 g31 g32 g33 fa fo fp)) hC V ⟨(Nat.le_of_ble_eq_true rfl), (Nat.le_of_ble_eq_true rfl)⟩ ⟨w30, fo, fp, rfl, rfl, (fun _ _ => rfl)⟩ dX8_lays_33
    · have V : gW D T A s [(o, .inr (8, [.int w0, .ref g1, .ref g2, .ref g3, .ref g4, .int (nI tp), .int w6, .int w7, .int w8, .int w9, .int w10, .int w11, .int w12, .int w13, .int w14, .ref g15, .int w16, .ref g17, .int w18, .int w19, .ref g20, .int w21, .ref g22, .ref g23, .ref g24, .int w25, .int w26, .int w27, .ref g28, .ref g29, .int w30, .ref g31, .ref g32, .ref g33])), (g1, .inl (T 0, 282, .inl fa)), (g28, .inl (T 0, 7, .inl fo)), (g29, .inl (T 0, 7, .inl fp))] H locs := V _ [0, 0, 0] rfl rfl rfl (by decide +kernel) rfl
      show W p l e _ s m args below meth c H locs _ _ _ (F0 m 14 ls [.int (nI 0)])
      refine lv_if_eq (tgt := 33) hx hb dX8_lays_14 (by decide) (fun _ => ?_) (fun c => absurd (show (nI 0) = 0 by decide +kernel) c)
      exact g_vret (Qr := (q_m_lays0 T n o u sum w0 g1 g2 g3 g4 tp w6 w7 w8 w9 w10 w11 w12 w13 w14 g15 w16 g17 w18 w19 g20 w21 g22 g23 g24 w25 w26 w27 g28 g29 w30 g31 g32 g33 fa fo fp)) hC V ⟨(Nat.le_of_ble_eq_true rfl), (Nat.le_of_ble_eq_true rfl)⟩ ⟨w30, fo, fp, rfl, rfl, (fun _ _ => rfl)⟩ dX8_lays_33

def q_m_ropes (T : Nat → ClassId) (n : Nat) (o : Nat) (wh : Int32) (w0 : Int32) (g1 : Nat) (g2 : Nat) (g3 : Nat) (g4 : Nat) (tp : Nat) (w6 : Int32) (w7 : Int32) (w8 : Int32) (w9 : Int32) (w10 : Int32) (w11 : Int32) (w12 : Int32) (w13 : Int32) (w14 : Int32) (g15 : Nat) (w16 : Int32) (g17 : Nat) (w18 : Int32) (w19 : Int32) (g20 : Nat) (w21 : Int32) (g22 : Nat) (g23 : Nat) (g24 : Nat) (w25 : Int32) (w26 : Int32) (w27 : Int32) (g28 : Nat) (g29 : Nat) (w30 : Int32) (g31 : Nat) (g32 : Nat) (g33 : Nat) (fa : Nat → Int32) (fo : Nat → Int32) (fp : Nat → Int32) : Option Value → va_W → Prop := fun rr ww => (∃ (z : Int32) (bs : Int32) (go : Nat → Int32) (gp : Nat → Int32), rr = some (.int z) ∧ ww = [(o, .inr (8, [.int (nI 0), .ref g1, .ref g2, .ref g3, .ref g4, .int (nI tp), .int w6, .int w7, .int w8, .int w9, .int w10, .int w11, .int w12, .int w13, .int w14, .ref g15, .int w16, .ref g17, .int w18, .int w19, .ref g20, .int w21, .ref g22, .ref g23, .ref g24, .int w25, .int w26, .int w27, .ref g28, .ref g29, .int bs, .ref g31, .ref g32, .ref g33])), (g1, .inl (T 0, 282, .inl fa)), (g28, .inl (T 0, 7, .inl go)), (g29, .inl (T 0, 7, .inl gp))])
set_option maxHeartbeats 4000000 in
set_option maxRecDepth 100000 in
theorem m_ropes (l : Launch) (D : va_G) (T : Nat → ClassId) (n : Nat) (o : Nat) (wh : Int32) (w0 : Int32) (g1 : Nat) (g2 : Nat) (g3 : Nat) (g4 : Nat) (tp : Nat) (w6 : Int32) (w7 : Int32) (w8 : Int32) (w9 : Int32) (w10 : Int32) (w11 : Int32) (w12 : Int32) (w13 : Int32) (w14 : Int32) (g15 : Nat) (w16 : Int32) (g17 : Nat) (w18 : Int32) (w19 : Int32) (g20 : Nat) (w21 : Int32) (g22 : Nat) (g23 : Nat) (g24 : Nat) (w25 : Int32) (w26 : Int32) (w27 : Int32) (g28 : Nat) (g29 : Nat) (w30 : Int32) (g31 : Nat) (g32 : Nat) (g33 : Nat) (fa : Nat → Int32) (fo : Nat → Int32) (fp : Nat → Int32) (h_a : MI n fa) : Ct l yX8_ropes cX8_ropes 2 (some .int) 10 0 0 D T [.ref o, .int wh] [(o, .inr (8, [.int w0, .ref g1, .ref g2, .ref g3, .ref g4, .int (nI tp), .int w6, .int w7, .int w8, .int w9, .int w10, .int w11, .int w12, .int w13, .int w14, .ref g15, .int w16, .ref g17, .int w18, .int w19, .ref g20, .int w21, .ref g22, .ref g23, .ref g24, .int w25, .int w26, .int w27, .ref g28, .ref g29, .int w30, .ref g31, .ref g32, .ref g33])), (g1, .inl (T 0, 282, .inl fa)), (g28, .inl (T 0, 7, .inl fo)), (g29, .inl (T 0, 7, .inl fp))] (q_m_ropes T n o wh w0 g1 g2 g3 g4 tp w6 w7 w8 w9 w10 w11 w12 w13 w14 g15 w16 g17 w18 w19 g20 w21 g22 g23 g24 w25 w26 w27 g28 g29 w30 g31 g32 g33 fa fo fp) := by
  refine Ct.of (cc := cX8_ropes) (maxL := 2) (ret := (some .int)) (by decide) (Nat.le_of_ble_eq_true rfl) ?_
  intro p e s m args below meth c A ls hC hnm V hl
  obtain ⟨hx, hb, hr, hml, hown, hts, hlocks⟩ := id hC
  generalize hH : s.heap = H at V ⊢
  clear hH
  have hl : lv_has ls 2 [(0, .ref o), (1, .int wh)] := hl
  generalize hlo : ([] : List Loc) = locs at V ⊢
  clear hlo
  have ms0 := ms_rf h_a
  have hn10 := h_a.1
  refine lv_aload_n hx hb dX8_ropes_0 rfl (lv_at hl 0 rfl) ?_
  refine lv_iconst (v := (nI 0)) hx hb dX8_ropes_1 (by decide +kernel) ?_
  refine g_put hC V (ci := 8) uwX8 tyX8 tyX8_ok nmX8 0 rfl rfl 0 (by decide) w_912 rfl rfl rfl rfl (Nat.le_of_ble_eq_true rfl) (ws' := [(o, .inr (8, [.int (nI 0), .ref g1, .ref g2, .ref g3, .ref g4, .int (nI tp), .int w6, .int w7, .int w8, .int w9, .int w10, .int w11, .int w12, .int w13, .int w14, .ref g15, .int w16, .ref g17, .int w18, .int w19, .ref g20, .int w21, .ref g22, .ref g23, .ref g24, .int w25, .int w26, .int w27, .ref g28, .ref g29, .int w30, .ref g31, .ref g32, .ref g33])), (g1, .inl (T 0, 282, .inl fa)), (g28, .inl (T 0, 7, .inl fo)), (g29, .inl (T 0, 7, .inl fp))]) rfl dX8_ropes_2 (fun H locs V => ?_)
  refine lv_iload_n hx hb dX8_ropes_5 rfl (lv_at hl 1 rfl) ?_
  refine lv_if_eq (tgt := 33) hx hb dX8_ropes_6 (by decide) (fun c_1 => ?_) (fun c_1 => ?_)
  · skip
    refine lv_aload_n hx hb dX8_ropes_33 rfl (lv_at hl 0 rfl) ?_
    refine g_get hC V (ci := 8) uwX8 0 rfl rfl 1 (by decide) w_913 rfl rfl dX8_ropes_34 ?_
    refine lv_iconst (v := (nI 0)) hx hb dX8_ropes_37 (by decide +kernel) ?_
    refine g_iald hC V 1 rfl (vp_in_nI (by decide) (by decide)) (v := (nI n)) (by rw [nI_clamp (by decide)]; first | rfl | exact h_a.2.1) dX8_ropes_38 ?_
    refine lv_bipush (v := (nI 7)) hx hb dX8_ropes_39 (by decide +kernel) ?_
    refine lv_icmp_le (tgt := 47) hx hb dX8_ropes_41 (by decide) (fun c_2 => ?_) (fun c_2 => ?_)
    · skip
      have c_2 := b_le (by omega) (by omega) c_2
      refine lv_aload_n hx hb dX8_ropes_47 rfl (lv_at hl 0 rfl) ?_
      refine g_get hC V (ci := 8) uwX8 0 rfl rfl 1 (by decide) w_913 rfl rfl dX8_ropes_48 ?_
      refine lv_iconst (v := (nI 0)) hx hb dX8_ropes_51 (by decide +kernel) ?_
      refine g_iald hC V 1 rfl (vp_in_nI (by decide) (by decide)) (v := (nI n)) (by rw [nI_clamp (by decide)]; first | rfl | exact h_a.2.1) dX8_ropes_52 ?_
      refine lv_if_ne (tgt := 59) hx hb dX8_ropes_53 (by decide) (fun c_3 => ?_) (fun c_3 => ?_)
      · skip
        rw [show (0 : Int32) = nI 0 from rfl] at c_3
        have c_3 := b_ne (by omega) (by omega) c_3
        refine lv_aload_n hx hb dX8_ropes_59 rfl (lv_at hl 0 rfl) ?_
        refine lv_iconst (v := (-1)) hx hb dX8_ropes_60 (by decide +kernel) ?_
        refine g_put hC V (ci := 8) uwX8 tyX8 tyX8_ok nmX8 0 rfl rfl 30 (by decide) w_942 rfl rfl rfl rfl (Nat.le_of_ble_eq_true rfl) (ws' := [(o, .inr (8, [.int (nI 0), .ref g1, .ref g2, .ref g3, .ref g4, .int (nI tp), .int w6, .int w7, .int w8, .int w9, .int w10, .int w11, .int w12, .int w13, .int w14, .ref g15, .int w16, .ref g17, .int w18, .int w19, .ref g20, .int w21, .ref g22, .ref g23, .ref g24, .int w25, .int w26, .int w27, .ref g28, .ref g29, .int (-1), .ref g31, .ref g32, .ref g33])), (g1, .inl (T 0, 282, .inl fa)), (g28, .inl (T 0, 7, .inl fo)), (g29, .inl (T 0, 7, .inl fp))]) rfl dX8_ropes_61 (fun H locs V => ?_)
        refine lv_aload_n hx hb dX8_ropes_64 rfl (lv_at hl 0 rfl) ?_
        refine lv_iconst (v := (nI 0)) hx hb dX8_ropes_65 (by decide +kernel) ?_
        refine lv_iconst (v := (nI 0)) hx hb dX8_ropes_66 (by decide +kernel) ?_
        refine lv_iconst (v := (nI 0)) hx hb dX8_ropes_67 (by decide +kernel) ?_
        refine g_callV (wr := []) (nA := 3) hC V hl.1 (m_lays0 l D T n o 0 (nI 0) (nI 0) g1 g2 g3 g4 tp w6 w7 w8 w9 w10 w11 w12 w13 w14 g15 w16 g17 w18 w19 g20 w21 g22 g23 g24 w25 w26 w27 g28 g29 (-1) g31 g32 g33 fa fo fp h_a (li_0 _) (fun j h => absurd h (Nat.not_lt_zero _)) (ub_0 _) (by omega) (by omega) (by omega)) w_1320 w_1322 w_s75 w_9 w_1323 (by decide +kernel) rfl ⟨(Nat.le_of_ble_eq_true rfl), (Nat.le_of_ble_eq_true rfl)⟩ 0 (ci := 8) rfl rfl [0, 1, 2, 3] [] rfl rfl rfl rfl (by decide) (Nat.le_of_ble_eq_true rfl) dX8_ropes_68 ⟨(Nat.le_of_ble_eq_true rfl), (Nat.le_of_ble_eq_true rfl)⟩ rfl (fun r w1 H locs hQ V => ?_)
        obtain ⟨bs_4, go_5, gp_6, rfl, rfl, f_7⟩ := hQ
        have V : gW D T A s [(o, .inr (8, [.int (nI 0), .ref g1, .ref g2, .ref g3, .ref g4, .int (nI tp), .int w6, .int w7, .int w8, .int w9, .int w10, .int w11, .int w12, .int w13, .int w14, .ref g15, .int w16, .ref g17, .int w18, .int w19, .ref g20, .int w21, .ref g22, .ref g23, .ref g24, .int w25, .int w26, .int w27, .ref g28, .ref g29, .int bs_4, .ref g31, .ref g32, .ref g33])), (g1, .inl (T 0, 282, .inl fa)), (g28, .inl (T 0, 7, .inl go_5)), (g29, .inl (T 0, 7, .inl gp_6))] H locs := V
        show W p l e _ s m args below meth c H locs _ _ _ (F0 m 71 ls [])
        refine lv_iload_n hx hb dX8_ropes_71 rfl (lv_at hl 1 rfl) ?_
        refine lv_if_ne (tgt := 82) hx hb dX8_ropes_72 (by decide) (fun c_8 => ?_) (fun c_8 => ?_)
        · skip
          refine lv_aload_n hx hb dX8_ropes_82 rfl (lv_at hl 0 rfl) ?_
          refine g_get hC V (ci := 8) uwX8 0 rfl rfl 29 (by decide) w_941 rfl rfl dX8_ropes_83 ?_
          refine lv_iload_n hx hb dX8_ropes_86 rfl (lv_at hl 1 rfl) ?_
          refine lv_bipush (v := (nI 10)) hx hb dX8_ropes_87 (by decide +kernel) ?_
          refine lv_isub hx hb dX8_ropes_89 ?_
          exact absurd (by assumption) ‹¬ wh = 0›
        · skip
          refine lv_aload_n hx hb dX8_ropes_75 rfl (lv_at hl 0 rfl) ?_
          refine g_get hC V (ci := 8) uwX8 0 rfl rfl 30 (by decide) w_942 rfl rfl dX8_ropes_76 ?_
          refine lv_goto (tgt := 91) hx hb dX8_ropes_79 (by decide) ?_
          exact g_iret (Qr := (q_m_ropes T n o wh w0 g1 g2 g3 g4 tp w6 w7 w8 w9 w10 w11 w12 w13 w14 g15 w16 g17 w18 w19 g20 w21 g22 g23 g24 w25 w26 w27 g28 g29 w30 g31 g32 g33 fa fo fp)) hC V ⟨(Nat.le_of_ble_eq_true rfl), (Nat.le_of_ble_eq_true rfl)⟩ ⟨bs_4, bs_4, go_5, gp_6, rfl, rfl⟩ dX8_ropes_91
      · skip
        rw [show (0 : Int32) = nI 0 from rfl] at c_3
        have c_3 := b_eq (by omega) (by omega) c_3
        refine lv_bipush (v := (-5)) hx hb dX8_ropes_56 (by decide +kernel) ?_
        exact g_iret (Qr := (q_m_ropes T n o wh w0 g1 g2 g3 g4 tp w6 w7 w8 w9 w10 w11 w12 w13 w14 g15 w16 g17 w18 w19 g20 w21 g22 g23 g24 w25 w26 w27 g28 g29 w30 g31 g32 g33 fa fo fp)) hC V ⟨(Nat.le_of_ble_eq_true rfl), (Nat.le_of_ble_eq_true rfl)⟩ ⟨(-5), w30, fo, fp, rfl, rfl⟩ dX8_ropes_58
    · skip
      have c_2 := b_nle (by omega) (by omega) c_2
      refine lv_bipush (v := (-4)) hx hb dX8_ropes_44 (by decide +kernel) ?_
      exact g_iret (Qr := (q_m_ropes T n o wh w0 g1 g2 g3 g4 tp w6 w7 w8 w9 w10 w11 w12 w13 w14 g15 w16 g17 w18 w19 g20 w21 g22 g23 g24 w25 w26 w27 g28 g29 w30 g31 g32 g33 fa fo fp)) hC V ⟨(Nat.le_of_ble_eq_true rfl), (Nat.le_of_ble_eq_true rfl)⟩ ⟨(-4), w30, fo, fp, rfl, rfl⟩ dX8_ropes_46
  · skip
    refine lv_iload_n hx hb dX8_ropes_9 rfl (lv_at hl 1 rfl) ?_
    refine lv_i2l (v := wh.toInt64) hx hb dX8_ropes_10 rfl ?_
    refine lv_ldc2 (v := (10)) hx hb hown (hts _ w_1257) dX8_ropes_11 ?_
    refine g_vl (y := (nI 10).toInt64) (by decide +kernel) ?_
    refine lv_bipush (v := (nI 9)) hx hb dX8_ropes_14 (by decide +kernel) ?_
    refine lv_aload_n hx hb dX8_ropes_16 rfl (lv_at hl 0 rfl) ?_
    refine g_get hC V (ci := 8) uwX8 0 rfl rfl 1 (by decide) w_913 rfl rfl dX8_ropes_17 ?_
    refine lv_iconst (v := (nI 0)) hx hb dX8_ropes_20 (by decide +kernel) ?_
    refine g_iald hC V 1 rfl (vp_in_nI (by decide) (by decide)) (v := (nI n)) (by rw [nI_clamp (by decide)]; first | rfl | exact h_a.2.1) dX8_ropes_21 ?_
    refine lv_iadd hx hb dX8_ropes_22 ?_
    refine g_vi (y := (nI (9 + n))) (nI_add _ _) ?_
    refine lv_i2l (v := (nI (9 + n)).toInt64) hx hb dX8_ropes_23 rfl ?_
    refine g_callSU (nA := 3) hC V hl.1 (m_within l D T wh (nI 10) (nI (9 + n))) w_1023 w_1024 w_9 w_1025 (by decide +kernel) rfl ⟨(Nat.le_of_ble_eq_true rfl), (Nat.le_of_ble_eq_true rfl)⟩ [] rfl rfl (Nat.le_of_ble_eq_true rfl) dX8_ropes_24 ⟨(Nat.le_of_ble_eq_true rfl), (Nat.le_of_ble_eq_true rfl)⟩ rfl (fun r w1 H locs hQ V => ?_)
    rcases hQ with ⟨rfl, rfl, f_9, f_10⟩ | ⟨rfl, rfl, f_11⟩
    · have V : gW D T A s [(o, .inr (8, [.int (nI 0), .ref g1, .ref g2, .ref g3, .ref g4, .int (nI tp), .int w6, .int w7, .int w8, .int w9, .int w10, .int w11, .int w12, .int w13, .int w14, .ref g15, .int w16, .ref g17, .int w18, .int w19, .ref g20, .int w21, .ref g22, .ref g23, .ref g24, .int w25, .int w26, .int w27, .ref g28, .ref g29, .int w30, .ref g31, .ref g32, .ref g33])), (g1, .inl (T 0, 282, .inl fa)), (g28, .inl (T 0, 7, .inl fo)), (g29, .inl (T 0, 7, .inl fp))] H locs := V _ [] rfl rfl rfl (by decide +kernel) rfl
      show W p l e _ s m args below meth c H locs _ _ _ (F0 m 27 ls [.int (nI 1)])
      obtain ⟨jw_12, hjw_12, ejw_12⟩ := w_ten hn10 f_9 f_10
      refine lv_if_ne (tgt := 33) hx hb dX8_ropes_27 (by decide) (fun _ => ?_) (fun c => absurd (show (nI 1) = 0 from c) (by decide +kernel))
      refine lv_aload_n hx hb dX8_ropes_33 rfl (lv_at hl 0 rfl) ?_
      refine g_get hC V (ci := 8) uwX8 0 rfl rfl 1 (by decide) w_913 rfl rfl dX8_ropes_34 ?_
      refine lv_iconst (v := (nI 0)) hx hb dX8_ropes_37 (by decide +kernel) ?_
      refine g_iald hC V 1 rfl (vp_in_nI (by decide) (by decide)) (v := (nI n)) (by rw [nI_clamp (by decide)]; first | rfl | exact h_a.2.1) dX8_ropes_38 ?_
      refine lv_bipush (v := (nI 7)) hx hb dX8_ropes_39 (by decide +kernel) ?_
      refine lv_icmp_le (tgt := 47) hx hb dX8_ropes_41 (by decide) (fun c_13 => ?_) (fun c_13 => ?_)
      · skip
        have c_13 := b_le (by omega) (by omega) c_13
        refine lv_aload_n hx hb dX8_ropes_47 rfl (lv_at hl 0 rfl) ?_
        refine g_get hC V (ci := 8) uwX8 0 rfl rfl 1 (by decide) w_913 rfl rfl dX8_ropes_48 ?_
        refine lv_iconst (v := (nI 0)) hx hb dX8_ropes_51 (by decide +kernel) ?_
        refine g_iald hC V 1 rfl (vp_in_nI (by decide) (by decide)) (v := (nI n)) (by rw [nI_clamp (by decide)]; first | rfl | exact h_a.2.1) dX8_ropes_52 ?_
        refine lv_if_ne (tgt := 59) hx hb dX8_ropes_53 (by decide) (fun c_14 => ?_) (fun c_14 => ?_)
        · skip
          rw [show (0 : Int32) = nI 0 from rfl] at c_14
          have c_14 := b_ne (by omega) (by omega) c_14
          refine lv_aload_n hx hb dX8_ropes_59 rfl (lv_at hl 0 rfl) ?_
          refine lv_iconst (v := (-1)) hx hb dX8_ropes_60 (by decide +kernel) ?_
          refine g_put hC V (ci := 8) uwX8 tyX8 tyX8_ok nmX8 0 rfl rfl 30 (by decide) w_942 rfl rfl rfl rfl (Nat.le_of_ble_eq_true rfl) (ws' := [(o, .inr (8, [.int (nI 0), .ref g1, .ref g2, .ref g3, .ref g4, .int (nI tp), .int w6, .int w7, .int w8, .int w9, .int w10, .int w11, .int w12, .int w13, .int w14, .ref g15, .int w16, .ref g17, .int w18, .int w19, .ref g20, .int w21, .ref g22, .ref g23, .ref g24, .int w25, .int w26, .int w27, .ref g28, .ref g29, .int (-1), .ref g31, .ref g32, .ref g33])), (g1, .inl (T 0, 282, .inl fa)), (g28, .inl (T 0, 7, .inl fo)), (g29, .inl (T 0, 7, .inl fp))]) rfl dX8_ropes_61 (fun H locs V => ?_)
          refine lv_aload_n hx hb dX8_ropes_64 rfl (lv_at hl 0 rfl) ?_
          refine lv_iconst (v := (nI 0)) hx hb dX8_ropes_65 (by decide +kernel) ?_
          refine lv_iconst (v := (nI 0)) hx hb dX8_ropes_66 (by decide +kernel) ?_
          refine lv_iconst (v := (nI 0)) hx hb dX8_ropes_67 (by decide +kernel) ?_
          refine g_callV (wr := []) (nA := 3) hC V hl.1 (m_lays0 l D T n o 0 (nI 0) (nI 0) g1 g2 g3 g4 tp w6 w7 w8 w9 w10 w11 w12 w13 w14 g15 w16 g17 w18 w19 g20 w21 g22 g23 g24 w25 w26 w27 g28 g29 (-1) g31 g32 g33 fa fo fp h_a (li_0 _) (fun j h => absurd h (Nat.not_lt_zero _)) (ub_0 _) (by omega) (by omega) (by omega)) w_1320 w_1322 w_s75 w_9 w_1323 (by decide +kernel) rfl ⟨(Nat.le_of_ble_eq_true rfl), (Nat.le_of_ble_eq_true rfl)⟩ 0 (ci := 8) rfl rfl [0, 1, 2, 3] [] rfl rfl rfl rfl (by decide) (Nat.le_of_ble_eq_true rfl) dX8_ropes_68 ⟨(Nat.le_of_ble_eq_true rfl), (Nat.le_of_ble_eq_true rfl)⟩ rfl (fun r w1 H locs hQ V => ?_)
          obtain ⟨bs_15, go_16, gp_17, rfl, rfl, f_18⟩ := hQ
          have V : gW D T A s [(o, .inr (8, [.int (nI 0), .ref g1, .ref g2, .ref g3, .ref g4, .int (nI tp), .int w6, .int w7, .int w8, .int w9, .int w10, .int w11, .int w12, .int w13, .int w14, .ref g15, .int w16, .ref g17, .int w18, .int w19, .ref g20, .int w21, .ref g22, .ref g23, .ref g24, .int w25, .int w26, .int w27, .ref g28, .ref g29, .int bs_15, .ref g31, .ref g32, .ref g33])), (g1, .inl (T 0, 282, .inl fa)), (g28, .inl (T 0, 7, .inl go_16)), (g29, .inl (T 0, 7, .inl gp_17))] H locs := V
          show W p l e _ s m args below meth c H locs _ _ _ (F0 m 71 ls [])
          refine lv_iload_n hx hb dX8_ropes_71 rfl (lv_at hl 1 rfl) ?_
          refine lv_if_ne (tgt := 82) hx hb dX8_ropes_72 (by decide) (fun c_19 => ?_) (fun c_19 => ?_)
          · skip
            refine lv_aload_n hx hb dX8_ropes_82 rfl (lv_at hl 0 rfl) ?_
            refine g_get hC V (ci := 8) uwX8 0 rfl rfl 29 (by decide) w_941 rfl rfl dX8_ropes_83 ?_
            refine lv_iload_n hx hb dX8_ropes_86 rfl (lv_at hl 1 rfl) ?_
            refine lv_bipush (v := (nI 10)) hx hb dX8_ropes_87 (by decide +kernel) ?_
            refine lv_isub hx hb dX8_ropes_89 ?_
            refine g_vi (y := nI jw_12) ejw_12 ?_
            refine g_iald hC V 3 rfl (vp_in_nI (by omega) (by omega)) (v := (gp_17 jw_12)) (congrArg _ (nI_clamp (by omega))) dX8_ropes_90 ?_
            exact g_iret (Qr := (q_m_ropes T n o wh w0 g1 g2 g3 g4 tp w6 w7 w8 w9 w10 w11 w12 w13 w14 g15 w16 g17 w18 w19 g20 w21 g22 g23 g24 w25 w26 w27 g28 g29 w30 g31 g32 g33 fa fo fp)) hC V ⟨(Nat.le_of_ble_eq_true rfl), (Nat.le_of_ble_eq_true rfl)⟩ ⟨(gp_17 jw_12), bs_15, go_16, gp_17, rfl, rfl⟩ dX8_ropes_91
          · skip
            refine lv_aload_n hx hb dX8_ropes_75 rfl (lv_at hl 0 rfl) ?_
            refine g_get hC V (ci := 8) uwX8 0 rfl rfl 30 (by decide) w_942 rfl rfl dX8_ropes_76 ?_
            refine lv_goto (tgt := 91) hx hb dX8_ropes_79 (by decide) ?_
            exact g_iret (Qr := (q_m_ropes T n o wh w0 g1 g2 g3 g4 tp w6 w7 w8 w9 w10 w11 w12 w13 w14 g15 w16 g17 w18 w19 g20 w21 g22 g23 g24 w25 w26 w27 g28 g29 w30 g31 g32 g33 fa fo fp)) hC V ⟨(Nat.le_of_ble_eq_true rfl), (Nat.le_of_ble_eq_true rfl)⟩ ⟨bs_15, bs_15, go_16, gp_17, rfl, rfl⟩ dX8_ropes_91
        · skip
          rw [show (0 : Int32) = nI 0 from rfl] at c_14
          have c_14 := b_eq (by omega) (by omega) c_14
          refine lv_bipush (v := (-5)) hx hb dX8_ropes_56 (by decide +kernel) ?_
          exact g_iret (Qr := (q_m_ropes T n o wh w0 g1 g2 g3 g4 tp w6 w7 w8 w9 w10 w11 w12 w13 w14 g15 w16 g17 w18 w19 g20 w21 g22 g23 g24 w25 w26 w27 g28 g29 w30 g31 g32 g33 fa fo fp)) hC V ⟨(Nat.le_of_ble_eq_true rfl), (Nat.le_of_ble_eq_true rfl)⟩ ⟨(-5), w30, fo, fp, rfl, rfl⟩ dX8_ropes_58
      · skip
        have c_13 := b_nle (by omega) (by omega) c_13
        refine lv_bipush (v := (-4)) hx hb dX8_ropes_44 (by decide +kernel) ?_
        exact g_iret (Qr := (q_m_ropes T n o wh w0 g1 g2 g3 g4 tp w6 w7 w8 w9 w10 w11 w12 w13 w14 g15 w16 g17 w18 w19 g20 w21 g22 g23 g24 w25 w26 w27 g28 g29 w30 g31 g32 g33 fa fo fp)) hC V ⟨(Nat.le_of_ble_eq_true rfl), (Nat.le_of_ble_eq_true rfl)⟩ ⟨(-4), w30, fo, fp, rfl, rfl⟩ dX8_ropes_46
    · have V : gW D T A s [(o, .inr (8, [.int (nI 0), .ref g1, .ref g2, .ref g3, .ref g4, .int (nI tp), .int w6, .int w7, .int w8, .int w9, .int w10, .int w11, .int w12, .int w13, .int w14, .ref g15, .int w16, .ref g17, .int w18, .int w19, .ref g20, .int w21, .ref g22, .ref g23, .ref g24, .int w25, .int w26, .int w27, .ref g28, .ref g29, .int w30, .ref g31, .ref g32, .ref g33])), (g1, .inl (T 0, 282, .inl fa)), (g28, .inl (T 0, 7, .inl fo)), (g29, .inl (T 0, 7, .inl fp))] H locs := V _ [] rfl rfl rfl (by decide +kernel) rfl
      show W p l e _ s m args below meth c H locs _ _ _ (F0 m 27 ls [.int (nI 0)])
      refine lv_if_ne (tgt := 33) hx hb dX8_ropes_27 (by decide) (fun c => absurd (show (nI 0) = 0 by decide +kernel) c) (fun _ => ?_)
      refine lv_bipush (v := (-2)) hx hb dX8_ropes_30 (by decide +kernel) ?_
      exact g_iret (Qr := (q_m_ropes T n o wh w0 g1 g2 g3 g4 tp w6 w7 w8 w9 w10 w11 w12 w13 w14 g15 w16 g17 w18 w19 g20 w21 g22 g23 g24 w25 w26 w27 g28 g29 w30 g31 g32 g33 fa fo fp)) hC V ⟨(Nat.le_of_ble_eq_true rfl), (Nat.le_of_ble_eq_true rfl)⟩ ⟨(-2), w30, fo, fp, rfl, rfl⟩ dX8_ropes_32
