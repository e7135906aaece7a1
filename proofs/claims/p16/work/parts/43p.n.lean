/-- what street answers, and where the FAULT is -/
def stZ (s : RLs) : Int32 := if s.2.1.2.2.2.2.1 = 0 then s.2.2 3 else -30 - nI s.2.1.2.2.2.2.1
def stP (s : RLs) : Int32 := if s.2.1.2.2.2.2.1 = 0 then -1 else s.2.1.2.2.2.2.2
/-- whom the SMITHS blow -/
def stR (n : Nat) (f : Nat → Int32) (i : Nat) : Int32 := if 0 < f (84 + i) then f (84 + i) - nI 1 else nI ((i + 1) % n)
/-- the numbers behind street -/
def stG (fa : Nat → Int32) (s : RLs) : Nat → Int32 := fun j => if s.2.1.2.2.2.2.1 = 0 ∧ j < 94 then (if 84 ≤ j ∧ j < 84 + s.1 then stR s.1 s.2.2 (j - 84) else s.2.2 j) else fa j
theorem stG_w {fa : Nat → Int32} {s : RLs} (h : ¬ s.2.1.2.2.2.2.1 = 0) : fa = stG fa s := by
  funext j; unfold stG; rw [if_neg (fun q => h q.1)]
theorem stG_0 {fa g : Nat → Int32} {s : RLs} (h : s.2.1.2.2.2.2.1 = 0) (hn : s.1 ≤ 10) (h1 : ∀ j, j < 84 → g j = s.2.2 j) (h2 : ∀ i, i < s.1 → g (84 + i) = stR s.1 s.2.2 i) (h3 : ∀ i, s.1 ≤ i → i < 10 → g (84 + i) = s.2.2 (84 + i)) (h4 : ∀ j, 94 ≤ j → g j = fa j) : g = stG fa s := by
  funext j
  unfold stG
  by_cases c : j < 94
  · rw [if_pos ⟨h, c⟩]
    by_cases c2 : 84 ≤ j ∧ j < 84 + s.1
    · rw [if_pos c2]
      have := h2 (j - 84) (by omega)
      rw [show 84 + (j - 84) = j by omega] at this
      exact this
    · rw [if_neg c2]
      by_cases c3 : j < 84
      · exact h1 j c3
      · have := h3 (j - 84) (by omega) (by omega)
        rw [show 84 + (j - 84) = j by omega] at this
        exact this
  · rw [if_neg (fun q => c q.2)]; exact h4 j (by omega)
theorem stR_1 {n i j : Nat} {f : Nat → Int32} (e : f (84 + i) = nI j) (hj : j < 100) (h : 0 < j) : nI (j - 1) = stR n f i := by
  have h0 : (0 : Int32) < nI j := by
    have := (nI_ltI (a := 0) (b := j) (by decide) (by omega)).mpr h
    exact this
  unfold stR; rw [e, if_pos h0, nI_sub (by omega)]
theorem stR_2 {n i j : Nat} {f : Nat → Int32} (e : f (84 + i) = nI j) (h : j = 0) : nI ((i + 1) % n) = stR n f i := by
  unfold stR; rw [e, h, if_neg (by decide +kernel)]
theorem up84 {f : Nat → Int32} {k n : Nat} {x : Int32} {g : Nat → Int32} (h : ∀ i, i < k → f (84 + i) = stR n g i) (hx : x = stR n g k) : ∀ i, i < k + 1 → upd f (84 + k) x (84 + i) = stR n g i := by
  intro i hi
  by_cases c : i = k
  · subst c; rw [up_same]; exact hx
  · rw [up_other (by omega)]; exact h i (by omega)
theorem fr_frI (f : Nat → Int32) : FR 0 (frI f) := fr_new (fun j hj => by unfold frI; rw [if_pos hj])
theorem stp_n {n : Nat} {p : PS} {f : Nat → Int32} (h1 : p.2.2.2.2.1 = 0) (h2 : ¬ p.2.2.1 = 11) : ¬ stp (n, p, f) := fun q => q.elim (fun h => h h1) h2
theorem FN_mk {t : Nat → Int32} {sz K n : Nat} {s0 : RLs} {p : PS} {f : Nat → Int32} (e : (n, p, f) = itS t sz s0 K) (h : ¬ p.2.2.2.2.1 = 0 ∨ p.2.2.1 = 11) (hj : ∀ j, j < K → ¬ stp (itS t sz s0 j)) : FN t sz s0 (n, p, f) := ⟨K, e, h, hj⟩
theorem no_stp {t : Nat → Int32} {sz K n : Nat} {s0 : RLs} {p : PS} {f : Nat → Int32} (e : (n, p, f) = itS t sz s0 K) (h1 : p.2.2.2.2.1 = 0) (h2 : ¬ p.2.2.1 = 11) (hj : ∀ j, j < K → ¬ stp (itS t sz s0 j)) : ∀ j, j < K + 1 → ¬ stp (itS t sz s0 j) := by
  intro j hjk
  by_cases c : j = K
  · rw [c, ← e]; exact stp_n h1 h2
  · exact hj j (by omega)

theorem ed_w0 {t : Nat → Int32} {sz : Nat} {p : PS} (h : (edS t sz p).2.2.2.2.1 = 0) : p.2.2.2.2.1 = 0 := by
  by_cases c : p.2.2.2.2.1 = 0 ∧ p.2.2.1 = 10
  · exact c.1
  · rw [ed_n c] at h; exact absurd h (fa_w (by decide))
theorem bu_bd {t : Nat → Int32} {sz : Nat} {p2 px pe : PS} (e : p2 = edS t sz px) (e2 : px = tkS t sz (nI 0) (nI 20) pe) (h : p2.2.2.2.2.1 = 0) : bd pe.2.2.2.1 21 := by
  rw [e] at h
  have hz := ed_w0 h
  rw [e2] at hz
  have r := tk_rng hz
  exact rg_bd ⟨r.1, r.2.1⟩ (by decide)
theorem fl_w {t : Nat → Int32} {sz f : Nat} {p2 px p : PS} (e : p2 = edS t sz px) (e2 : px = faS (f + 1) p) : ¬ p2.2.2.2.2.1 = 0 := by
  intro h
  rw [e] at h
  have hz := ed_w0 h
  rw [e2] at hz
  exact fa_w (by omega) hz
/-- how far the reading is -/
def rdS (sz : Nat) (p : PS) : Nat := if p.2.2.2.2.1 = 0 ∧ ¬ p.2.2.1 = 11 then sz - p.2.1 + 1 else 0
theorem rdS_dec {t : Nat → Int32} {sz n n2 : Nat} {p p2 : PS} {f f2 : Nat → Int32} (hP : PI t sz p) (h0 : p.2.2.2.2.1 = 0) (hk : ¬ p.2.2.1 = 11) (e : (n2, p2, f2) = lnS t sz (n, p, f)) : rdS sz p2 < rdS sz p := by
  have e1 : rdS sz p = sz - p.2.1 + 1 := if_pos ⟨h0, hk⟩
  rw [e1]
  obtain ⟨q1, q2⟩ := ln_mv (t := t) (sz := sz) (s := (n, p, f)) hP
  rw [← e] at q1 q2
  have b2 : p2.2.1 ≤ sz := q1.2.1
  unfold rdS
  split
  · rename_i c
    rcases q2 with (h | h) | h
    · exact absurd c.1 h
    · exact absurd h c.2
    · have h' : p.2.1 < p2.2.1 := h
      omega
  · omega

def q_m_street_f (T : Nat → ClassId) (n : Nat) (o : Nat) (n_ : Int32) (w0 : Int32) (g1 : Nat) (g2 : Nat) (g3 : Nat) (g4 : Nat) (tp : Nat) (w6 : Int32) (w7 : Int32) (w8 : Int32) (w9 : Int32) (w10 : Int32) (w11 : Int32) (w12 : Int32) (w13 : Int32) (w14 : Int32) (g15 : Nat) (w16 : Int32) (g17 : Nat) (w18 : Int32) (w19 : Int32) (g20 : Nat) (w21 : Int32) (g22 : Nat) (g23 : Nat) (g24 : Nat) (w25 : Int32) (w26 : Int32) (w27 : Int32) (g28 : Nat) (g29 : Nat) (w30 : Int32) (g31 : Nat) (g32 : Nat) (g33 : Nat) (fa : Nat → Int32) (ft : Nat → Int32) (ff : Nat → Int32) : Option Value → va_W → Prop := fun rr ww => (rr = some (.int (-3)) ∧ ww = [(o, .inr (8, [.int (nI 0), .ref g1, .ref g2, .ref g3, .ref g4, .int (nI tp), .int w6, .int w7, .int w8, .int w9, .int w10, .int w11, .int w12, .int w13, .int w14, .ref g15, .int w16, .ref g17, .int w18, .int w19, .ref g20, .int w21, .ref g22, .ref g23, .ref g24, .int w25, .int w26, .int w27, .ref g28, .ref g29, .int w30, .ref g31, .ref g32, .ref g33])), (g1, .inl (T 0, 282, .inl fa)), (g3, .inl (T 0, 900, .inl ft)), (g4, .inl (T 0, 94, .inl ff))] ∧ (n_ < nI 0 ∨ nI tp < n_)) ∨ (∃ (z : Int32) (jn : Nat) (s_ : RLs) (ga : Nat → Int32) (m0 : Nat), rr = some (.int z) ∧ ww = [(o, .inr (8, [.int (nI 0), .ref g1, .ref g2, .ref g3, .ref g4, .int (nI 0), .int (nI s_.2.1.1), .int (nI s_.2.1.2.1), .int (nI jn), .int (nI s_.2.1.2.2.1), .int s_.2.1.2.2.2.1, .int (nI s_.2.1.2.2.2.2.1), .int s_.2.1.2.2.2.2.2, .int (nI s_.2.1.2.2.2.2.1), .int (stP s_), .ref g15, .int w16, .ref g17, .int w18, .int w19, .ref g20, .int w21, .ref g22, .ref g23, .ref g24, .int w25, .int w26, .int w27, .ref g28, .ref g29, .int w30, .ref g31, .ref g32, .ref g33])), (g1, .inl (T 0, 282, .inl ga)), (g3, .inl (T 0, 900, .inl ft)), (g4, .inl (T 0, 94, .inl s_.2.2))] ∧ n_ = nI jn ∧ jn ≤ tp ∧ FN ft jn (0, nxS ft jn (0, 0, 0, w10, 0, w12), frI ff) s_ ∧ z = stZ s_ ∧ ga = stG fa s_ ∧ MI m0 ga ∧ (∀ j, 94 ≤ j → ga j = fa j) ∧ PI ft jn s_.2.1 ∧ (s_.2.1.2.2.2.2.1 = 0 → FR s_.1 s_.2.2) ∧ (s_.2.1.2.2.2.2.1 = 0 → m0 = s_.1))
set_option maxHeartbeats 8000000 in
set_option maxRecDepth 100000 in
theorem m_street_f (l : Launch) (D : va_G) (T : Nat → ClassId) (n : Nat) (o : Nat) (n_ : Int32) (w0 : Int32) (g1 : Nat) (g2 : Nat) (g3 : Nat) (g4 : Nat) (tp : Nat) (w6 : Int32) (w7 : Int32) (w8 : Int32) (w9 : Int32) (w10 : Int32) (w11 : Int32) (w12 : Int32) (w13 : Int32) (w14 : Int32) (g15 : Nat) (w16 : Int32) (g17 : Nat) (w18 : Int32) (w19 : Int32) (g20 : Nat) (w21 : Int32) (g22 : Nat) (g23 : Nat) (g24 : Nat) (w25 : Int32) (w26 : Int32) (w27 : Int32) (g28 : Nat) (g29 : Nat) (w30 : Int32) (g31 : Nat) (g32 : Nat) (g33 : Nat) (fa : Nat → Int32) (ft : Nat → Int32) (ff : Nat → Int32) (h_a : MI n fa) (h_t : tp ≤ 900) : Ct l yX8_street cX8_street 3 (some .int) 9 0 0 D T [.ref o, .int n_] [(o, .inr (8, [.int w0, .ref g1, .ref g2, .ref g3, .ref g4, .int (nI tp), .int w6, .int w7, .int w8, .int w9, .int w10, .int w11, .int w12, .int w13, .int w14, .ref g15, .int w16, .ref g17, .int w18, .int w19, .ref g20, .int w21, .ref g22, .ref g23, .ref g24, .int w25, .int w26, .int w27, .ref g28, .ref g29, .int w30, .ref g31, .ref g32, .ref g33])), (g1, .inl (T 0, 282, .inl fa)), (g3, .inl (T 0, 900, .inl ft)), (g4, .inl (T 0, 94, .inl ff))] (q_m_street_f T n o n_ w0 g1 g2 g3 g4 tp w6 w7 w8 w9 w10 w11 w12 w13 w14 g15 w16 g17 w18 w19 g20 w21 g22 g23 g24 w25 w26 w27 g28 g29 w30 g31 g32 g33 fa ft ff) := by
  refine Ct.of (cc := cX8_street) (maxL := 3) (ret := (some .int)) (by decide) (Nat.le_of_ble_eq_true rfl) ?_
  intro p e s m args below meth c A ls hC hnm V hl
  obtain ⟨hx, hb, hr, hml, hown, hts, hlocks⟩ := id hC
  generalize hH : s.heap = H at V ⊢
  clear hH
  have hl : lv_has ls 3 [(0, .ref o), (1, .int n_)] := hl
  generalize hlo : ([] : List Loc) = locs at V ⊢
  clear hlo
  have ms0 := ms_rf h_a
  have hn10 := h_a.1
  refine lv_aload_n hx hb dX8_street_0 rfl (lv_at hl 0 rfl) ?_
  refine lv_iconst (v := (nI 0)) hx hb dX8_street_1 (by decide +kernel) ?_
  refine g_put hC V (ci := 8) uwX8 tyX8 tyX8_ok nmX8 0 rfl rfl 0 (by decide) w_912 rfl rfl rfl rfl (Nat.le_of_ble_eq_true rfl) (ws' := [(o, .inr (8, [.int (nI 0), .ref g1, .ref g2, .ref g3, .ref g4, .int (nI tp), .int w6, .int w7, .int w8, .int w9, .int w10, .int w11, .int w12, .int w13, .int w14, .ref g15, .int w16, .ref g17, .int w18, .int w19, .ref g20, .int w21, .ref g22, .ref g23, .ref g24, .int w25, .int w26, .int w27, .ref g28, .ref g29, .int w30, .ref g31, .ref g32, .ref g33])), (g1, .inl (T 0, 282, .inl fa)), (g3, .inl (T 0, 900, .inl ft)), (g4, .inl (T 0, 94, .inl ff))]) rfl dX8_street_2 (fun H locs V => ?_)
  refine lv_iload_n hx hb dX8_street_5 rfl (lv_at hl 1 rfl) ?_
  refine lv_i2l (v := n_.toInt64) hx hb dX8_street_6 rfl ?_
  refine lv_lconst (v := (nI 0).toInt64) hx hb dX8_street_7 (by decide +kernel) ?_
  refine lv_aload_n hx hb dX8_street_8 rfl (lv_at hl 0 rfl) ?_
  refine g_get hC V (ci := 8) uwX8 0 rfl rfl 5 (by decide) w_917 rfl rfl dX8_street_9 ?_
  refine lv_i2l (v := (nI tp).toInt64) hx hb dX8_street_12 rfl ?_
  refine g_callSU (nA := 3) hC V hl.1 (m_within l D T n_ (nI 0) (nI tp)) w_1023 w_1024 w_9 w_1025 (by decide +kernel) rfl ⟨(Nat.le_of_ble_eq_true rfl), (Nat.le_of_ble_eq_true rfl)⟩ [] rfl rfl (Nat.le_of_ble_eq_true rfl) dX8_street_13 ⟨(Nat.le_of_ble_eq_true rfl), (Nat.le_of_ble_eq_true rfl)⟩ rfl (fun r w1 H locs hQ V => ?_)
  rcases hQ with ⟨rfl, rfl, f_1, f_2⟩ | ⟨rfl, rfl, f_3⟩
  · have V : gW D T A s [(o, .inr (8, [.int (nI 0), .ref g1, .ref g2, .ref g3, .ref g4, .int (nI tp), .int w6, .int w7, .int w8, .int w9, .int w10, .int w11, .int w12, .int w13, .int w14, .ref g15, .int w16, .ref g17, .int w18, .int w19, .ref g20, .int w21, .ref g22, .ref g23, .ref g24, .int w25, .int w26, .int w27, .ref g28, .ref g29, .int w30, .ref g31, .ref g32, .ref g33])), (g1, .inl (T 0, 282, .inl fa)), (g3, .inl (T 0, 900, .inl ft)), (g4, .inl (T 0, 94, .inl ff))] H locs := V _ [] rfl rfl rfl (by decide +kernel) rfl
    show W p l e _ s m args below meth c H locs _ _ _ (F0 m 16 ls [.int (nI 1)])
    obtain ⟨jn, hjn1, hjn2, ejn⟩ := g_rng (by decide) (by omega) f_1 f_2
    rw [ejn] at hl
    refine lv_if_ne (tgt := 22) hx hb dX8_street_16 (by decide) (fun _ => ?_) (fun c => absurd (show (nI 1) = 0 from c) (by decide +kernel))
    refine lv_aload_n hx hb dX8_street_22 rfl (lv_at hl 0 rfl) ?_
    refine lv_iload_n hx hb dX8_street_23 rfl (lv_at hl 1 rfl) ?_
    refine g_put hC V (ci := 8) uwX8 tyX8 tyX8_ok nmX8 0 rfl rfl 8 (by decide) w_920 rfl rfl rfl rfl (Nat.le_of_ble_eq_true rfl) (ws' := [(o, .inr (8, [.int (nI 0), .ref g1, .ref g2, .ref g3, .ref g4, .int (nI tp), .int w6, .int w7, .int (nI jn), .int w9, .int w10, .int w11, .int w12, .int w13, .int w14, .ref g15, .int w16, .ref g17, .int w18, .int w19, .ref g20, .int w21, .ref g22, .ref g23, .ref g24, .int w25, .int w26, .int w27, .ref g28, .ref g29, .int w30, .ref g31, .ref g32, .ref g33])), (g1, .inl (T 0, 282, .inl fa)), (g3, .inl (T 0, 900, .inl ft)), (g4, .inl (T 0, 94, .inl ff))]) rfl dX8_street_24 (fun H locs V => ?_)
    refine lv_aload_n hx hb dX8_street_27 rfl (lv_at hl 0 rfl) ?_
    refine lv_iconst (v := (nI 0)) hx hb dX8_street_28 (by decide +kernel) ?_
    refine g_put hC V (ci := 8) uwX8 tyX8 tyX8_ok nmX8 0 rfl rfl 5 (by decide) w_917 rfl rfl rfl rfl (Nat.le_of_ble_eq_true rfl) (ws' := [(o, .inr (8, [.int (nI 0), .ref g1, .ref g2, .ref g3, .ref g4, .int (nI 0), .int w6, .int w7, .int (nI jn), .int w9, .int w10, .int w11, .int w12, .int w13, .int w14, .ref g15, .int w16, .ref g17, .int w18, .int w19, .ref g20, .int w21, .ref g22, .ref g23, .ref g24, .int w25, .int w26, .int w27, .ref g28, .ref g29, .int w30, .ref g31, .ref g32, .ref g33])), (g1, .inl (T 0, 282, .inl fa)), (g3, .inl (T 0, 900, .inl ft)), (g4, .inl (T 0, 94, .inl ff))]) rfl dX8_street_29 (fun H locs V => ?_)
    refine lv_aload_n hx hb dX8_street_32 rfl (lv_at hl 0 rfl) ?_
    refine lv_iconst (v := (nI 0)) hx hb dX8_street_33 (by decide +kernel) ?_
    refine g_put hC V (ci := 8) uwX8 tyX8 tyX8_ok nmX8 0 rfl rfl 7 (by decide) w_919 rfl rfl rfl rfl (Nat.le_of_ble_eq_true rfl) (ws' := [(o, .inr (8, [.int (nI 0), .ref g1, .ref g2, .ref g3, .ref g4, .int (nI 0), .int w6, .int (nI 0), .int (nI jn), .int w9, .int w10, .int w11, .int w12, .int w13, .int w14, .ref g15, .int w16, .ref g17, .int w18, .int w19, .ref g20, .int w21, .ref g22, .ref g23, .ref g24, .int w25, .int w26, .int w27, .ref g28, .ref g29, .int w30, .ref g31, .ref g32, .ref g33])), (g1, .inl (T 0, 282, .inl fa)), (g3, .inl (T 0, 900, .inl ft)), (g4, .inl (T 0, 94, .inl ff))]) rfl dX8_street_34 (fun H locs V => ?_)
    refine lv_aload_n hx hb dX8_street_37 rfl (lv_at hl 0 rfl) ?_
    refine lv_iconst (v := (nI 0)) hx hb dX8_street_38 (by decide +kernel) ?_
    refine g_put hC V (ci := 8) uwX8 tyX8 tyX8_ok nmX8 0 rfl rfl 11 (by decide) w_923 rfl rfl rfl rfl (Nat.le_of_ble_eq_true rfl) (ws' := [(o, .inr (8, [.int (nI 0), .ref g1, .ref g2, .ref g3, .ref g4, .int (nI 0), .int w6, .int (nI 0), .int (nI jn), .int w9, .int w10, .int (nI 0), .int w12, .int w13, .int w14, .ref g15, .int w16, .ref g17, .int w18, .int w19, .ref g20, .int w21, .ref g22, .ref g23, .ref g24, .int w25, .int w26, .int w27, .ref g28, .ref g29, .int w30, .ref g31, .ref g32, .ref g33])), (g1, .inl (T 0, 282, .inl fa)), (g3, .inl (T 0, 900, .inl ft)), (g4, .inl (T 0, 94, .inl ff))]) rfl dX8_street_39 (fun H locs V => ?_)
    refine lv_iconst (v := (nI 0)) hx hb dX8_street_42 (by decide +kernel) ?_
    refine lv_istore_n (lv' := [(2, .int (nI 0)), (0, .ref o), (1, .int (nI jn))]) hx hb dX8_street_43 rfl hl (by decide) rfl (fun ls hl => ?_)
    have L_4 : ∀ (fu : Nat) (k44 : Nat) (f44 : Nat → Int32), k44 ≤ 94 → (∀ j, j < k44 → f44 j = if j = 2 then nI 20 else nI 0) → (∀ j, 94 ≤ j → f44 j = ff j) → 94 - k44 < fu → ∀ (H : Heap) (locs : List Loc) (ls : Array Slot), gW D T A s [(o, .inr (8, [.int (nI 0), .ref g1, .ref g2, .ref g3, .ref g4, .int (nI 0), .int w6, .int (nI 0), .int (nI jn), .int w9, .int w10, .int (nI 0), .int w12, .int w13, .int w14, .ref g15, .int w16, .ref g17, .int w18, .int w19, .ref g20, .int w21, .ref g22, .ref g23, .ref g24, .int w25, .int w26, .int w27, .ref g28, .ref g29, .int w30, .ref g31, .ref g32, .ref g33])), (g1, .inl (T 0, 282, .inl fa)), (g3, .inl (T 0, 900, .inl ft)), (g4, .inl (T 0, 94, .inl f44))] H locs → lv_has ls 3 [(2, .int (nI k44)), (0, .ref o), (1, .int (nI jn))] → W p l e (rmD 9 0 0) s m args below meth c H locs 0 0 (MQ below (gQ D A (q_m_street_f T n o n_ w0 g1 g2 g3 g4 tp w6 w7 w8 w9 w10 w11 w12 w13 w14 g15 w16 g17 w18 w19 g20 w21 g22 g23 g24 w25 w26 w27 g28 g29 w30 g31 g32 g33 fa ft ff)) args s 0 0 A) (F0 m 44 ls []) := by
      intro fu_44
      induction fu_44 with
      | zero => intro k44 f44 hk44 hf44 hf44b hmu; exact absurd hmu (Nat.not_lt_zero _)
      | succ fu_44 ih_44 =>
        intro k44 f44 hk44 hf44 hf44b hmu_44 H locs ls V hl
        refine lv_iload_n hx hb dX8_street_44 rfl (lv_at hl 0 rfl) ?_
        refine lv_bipush (v := (nI 94)) hx hb dX8_street_45 (by decide +kernel) ?_
        refine lv_icmp_ge (tgt := 73) hx hb dX8_street_47 (by decide) (fun c_5 => ?_) (fun c_5 => ?_)
        · skip
          have c_5 := b_le (by omega) (by omega) c_5
          have ef0 : f44 = frI ff := frI_eq (fun j hj => hf44 j (by omega)) hf44b
          refine lv_aload_n hx hb dX8_street_73 rfl (lv_at hl 1 rfl) ?_
          refine g_callVU (nA := 0) hC V hl.1 (m_next_f l D T o (nI 0) g1 g2 g3 g4 0 w6 0 jn w9 w10 0 w12 w13 w14 g15 w16 g17 w18 w19 g20 w21 g22 g23 g24 w25 w26 w27 g28 g29 w30 g31 g32 g33 ft (by first | assumption | omega) (by first | assumption | omega) (by first | assumption | omega)) w_1026 w_1028 w_s36 w_9 w_1029 (by decide +kernel) rfl ⟨(Nat.le_of_ble_eq_true rfl), (Nat.le_of_ble_eq_true rfl)⟩ 0 (ci := 8) rfl rfl [0, 2] rfl rfl (Nat.le_of_ble_eq_true rfl) dX8_street_74 ⟨(Nat.le_of_ble_eq_true rfl), (Nat.le_of_ble_eq_true rfl)⟩ rfl (fun r w1 H locs hQ V => ?_)
          obtain ⟨p2_6, rfl, rfl, f_7⟩ := hQ
          have V : gW D T A s [(o, .inr (8, [.int (nI 0), .ref g1, .ref g2, .ref g3, .ref g4, .int (nI 0), .int (nI p2_6.1), .int (nI p2_6.2.1), .int (nI jn), .int (nI p2_6.2.2.1), .int p2_6.2.2.2.1, .int (nI p2_6.2.2.2.2.1), .int p2_6.2.2.2.2.2, .int w13, .int w14, .ref g15, .int w16, .ref g17, .int w18, .int w19, .ref g20, .int w21, .ref g22, .ref g23, .ref g24, .int w25, .int w26, .int w27, .ref g28, .ref g29, .int w30, .ref g31, .ref g32, .ref g33])), (g1, .inl (T 0, 282, .inl fa)), (g3, .inl (T 0, 900, .inl ft)), (g4, .inl (T 0, 94, .inl f44))] H locs := V _ [0, 1] rfl rfl rfl (by decide +kernel) rfl
          show W p l e _ s m args below meth c H locs _ _ _ (F0 m 77 ls [])
          have hP0 : PI ft jn p2_6 := by rw [f_7]; exact PI_nx (Nat.zero_le _) (Nat.zero_le _)
          obtain ⟨_, _, _, _, -⟩ := id hP0
          have hi0 : (0, p2_6, f44) = itS ft jn (0, nxS ft jn (0, 0, 0, w10, 0, w12), frI ff) 0 := by rw [f_7, ef0]; rfl
          have L_8 : ∀ (fu : Nat) (f77 : Nat → Int32) (pq : PS) (nq : Nat) (kq : Nat), (nq, pq, f77) = itS ft jn (0, nxS ft jn (0, 0, 0, w10, 0, w12), frI ff) kq → (∀ j, j < kq → ¬ stp (itS ft jn (0, nxS ft jn (0, 0, 0, w10, 0, w12), frI ff) j)) → PI ft jn pq → (pq.2.2.2.2.1 = 0 → FR nq f77) → rdS jn pq < fu → ∀ (H : Heap) (locs : List Loc) (ls : Array Slot), gW D T A s [(o, .inr (8, [.int (nI 0), .ref g1, .ref g2, .ref g3, .ref g4, .int (nI 0), .int (nI pq.1), .int (nI pq.2.1), .int (nI jn), .int (nI pq.2.2.1), .int pq.2.2.2.1, .int (nI pq.2.2.2.2.1), .int pq.2.2.2.2.2, .int w13, .int w14, .ref g15, .int w16, .ref g17, .int w18, .int w19, .ref g20, .int w21, .ref g22, .ref g23, .ref g24, .int w25, .int w26, .int w27, .ref g28, .ref g29, .int w30, .ref g31, .ref g32, .ref g33])), (g1, .inl (T 0, 282, .inl fa)), (g3, .inl (T 0, 900, .inl ft)), (g4, .inl (T 0, 94, .inl f77))] H locs → lv_has ls 3 [(0, .ref o), (1, .int (nI jn))] → W p l e (rmD 9 0 0) s m args below meth c H locs 0 0 (MQ below (gQ D A (q_m_street_f T n o n_ w0 g1 g2 g3 g4 tp w6 w7 w8 w9 w10 w11 w12 w13 w14 g15 w16 g17 w18 w19 g20 w21 g22 g23 g24 w25 w26 w27 g28 g29 w30 g31 g32 g33 fa ft ff)) args s 0 0 A) (F0 m 77 ls []) := by
            intro fu_77
            induction fu_77 with
            | zero => intro f77 pq nq kq hit hns hP hfr hmu; exact absurd hmu (Nat.not_lt_zero _)
            | succ fu_77 ih_77 =>
              intro f77 pq nq kq hit hns hP hfr hmu_77 H locs ls V hl
              obtain ⟨_, _, _, _, -⟩ := id hP
              refine lv_aload_n hx hb dX8_street_77 rfl (lv_at hl 0 rfl) ?_
              refine g_get hC V (ci := 8) uwX8 0 rfl rfl 11 (by decide) w_923 rfl rfl dX8_street_78 ?_
              refine lv_if_ne (tgt := 181) hx hb dX8_street_81 (by decide) (fun c_9 => ?_) (fun c_9 => ?_)
              · skip
                rw [show (0 : Int32) = nI 0 from rfl] at c_9
                have c_9 := b_ne (by omega) (by omega) c_9
                refine lv_aload_n hx hb dX8_street_181 rfl (lv_at hl 0 rfl) ?_
                refine lv_aload_n hx hb dX8_street_182 rfl (lv_at hl 0 rfl) ?_
                refine g_get hC V (ci := 8) uwX8 0 rfl rfl 11 (by decide) w_923 rfl rfl dX8_street_183 ?_
                refine g_put hC V (ci := 8) uwX8 tyX8 tyX8_ok nmX8 0 rfl rfl 13 (by decide) w_925 rfl rfl rfl rfl (Nat.le_of_ble_eq_true rfl) (ws' := [(o, .inr (8, [.int (nI 0), .ref g1, .ref g2, .ref g3, .ref g4, .int (nI 0), .int (nI pq.1), .int (nI pq.2.1), .int (nI jn), .int (nI pq.2.2.1), .int pq.2.2.2.1, .int (nI pq.2.2.2.2.1), .int pq.2.2.2.2.2, .int (nI pq.2.2.2.2.1), .int w14, .ref g15, .int w16, .ref g17, .int w18, .int w19, .ref g20, .int w21, .ref g22, .ref g23, .ref g24, .int w25, .int w26, .int w27, .ref g28, .ref g29, .int w30, .ref g31, .ref g32, .ref g33])), (g1, .inl (T 0, 282, .inl fa)), (g3, .inl (T 0, 900, .inl ft)), (g4, .inl (T 0, 94, .inl f77))]) rfl dX8_street_186 (fun H locs V => ?_)
                refine lv_aload_n hx hb dX8_street_189 rfl (lv_at hl 0 rfl) ?_
                refine lv_aload_n hx hb dX8_street_190 rfl (lv_at hl 0 rfl) ?_
                refine g_get hC V (ci := 8) uwX8 0 rfl rfl 11 (by decide) w_923 rfl rfl dX8_street_191 ?_
                refine lv_if_ne (tgt := 201) hx hb dX8_street_194 (by decide) (fun c_10 => ?_) (fun c_10 => ?_)
                · skip
                  rw [show (0 : Int32) = nI 0 from rfl] at c_10
                  have c_10 := b_ne (by omega) (by omega) c_10
                  refine lv_aload_n hx hb dX8_street_201 rfl (lv_at hl 0 rfl) ?_
                  refine g_get hC V (ci := 8) uwX8 0 rfl rfl 12 (by decide) w_924 rfl rfl dX8_street_202 ?_
                  refine g_put hC V (ci := 8) uwX8 tyX8 tyX8_ok nmX8 0 rfl rfl 14 (by decide) w_926 rfl rfl rfl rfl (Nat.le_of_ble_eq_true rfl) (ws' := [(o, .inr (8, [.int (nI 0), .ref g1, .ref g2, .ref g3, .ref g4, .int (nI 0), .int (nI pq.1), .int (nI pq.2.1), .int (nI jn), .int (nI pq.2.2.1), .int pq.2.2.2.1, .int (nI pq.2.2.2.2.1), .int pq.2.2.2.2.2, .int (nI pq.2.2.2.2.1), .int pq.2.2.2.2.2, .ref g15, .int w16, .ref g17, .int w18, .int w19, .ref g20, .int w21, .ref g22, .ref g23, .ref g24, .int w25, .int w26, .int w27, .ref g28, .ref g29, .int w30, .ref g31, .ref g32, .ref g33])), (g1, .inl (T 0, 282, .inl fa)), (g3, .inl (T 0, 900, .inl ft)), (g4, .inl (T 0, 94, .inl f77))]) rfl dX8_street_205 (fun H locs V => ?_)
                  refine lv_aload_n hx hb dX8_street_208 rfl (lv_at hl 0 rfl) ?_
                  refine g_get hC V (ci := 8) uwX8 0 rfl rfl 11 (by decide) w_923 rfl rfl dX8_street_209 ?_
                  refine lv_if_eq (tgt := 223) hx hb dX8_street_212 (by decide) (fun c_11 => ?_) (fun c_11 => ?_)
                  · skip
                    rw [show (0 : Int32) = nI 0 from rfl] at c_11
                    have c_11 := b_eq (by omega) (by omega) c_11
                    exact (by omega : False).elim
                  · skip
                    rw [show (0 : Int32) = nI 0 from rfl] at c_11
                    have c_11 := b_ne (by omega) (by omega) c_11
                    refine lv_bipush (v := (-30)) hx hb dX8_street_215 (by decide +kernel) ?_
                    refine lv_aload_n hx hb dX8_street_217 rfl (lv_at hl 0 rfl) ?_
                    refine g_get hC V (ci := 8) uwX8 0 rfl rfl 11 (by decide) w_923 rfl rfl dX8_street_218 ?_
                    refine lv_isub hx hb dX8_street_221 ?_
                    exact g_iret (Qr := (q_m_street_f T n o n_ w0 g1 g2 g3 g4 tp w6 w7 w8 w9 w10 w11 w12 w13 w14 g15 w16 g17 w18 w19 g20 w21 g22 g23 g24 w25 w26 w27 g28 g29 w30 g31 g32 g33 fa ft ff)) hC V ⟨(Nat.le_of_ble_eq_true rfl), (Nat.le_of_ble_eq_true rfl)⟩ (.inr ⟨(-30 - nI pq.2.2.2.2.1), jn, (nq, pq, f77), fa, n, rfl, (by rw [show stP (nq, pq, f77) = pq.2.2.2.2.2 from if_neg (by assumption)]), ejn, (by omega), (FN_mk hit (Or.inl (by assumption)) hns), (if_neg (by assumption)).symm, (stG_w (by assumption)), h_a, (fun _ _ => rfl), hP, (fun h => absurd h (by assumption)), (fun h => absurd h (by assumption))⟩) dX8_street_222
                · skip
                  rw [show (0 : Int32) = nI 0 from rfl] at c_10
                  have c_10 := b_eq (by omega) (by omega) c_10
                  exact (by omega : False).elim
              · skip
                rw [show (0 : Int32) = nI 0 from rfl] at c_9
                have c_9 := b_eq (by omega) (by omega) c_9
                have hw0 := c_9
                have hF := hfr c_9
                refine lv_aload_n hx hb dX8_street_84 rfl (lv_at hl 0 rfl) ?_
                refine g_get hC V (ci := 8) uwX8 0 rfl rfl 9 (by decide) w_921 rfl rfl dX8_street_85 ?_
                refine lv_bipush (v := (nI 11)) hx hb dX8_street_88 (by decide +kernel) ?_
                refine lv_icmp_eq (tgt := 181) hx hb dX8_street_90 (by decide) (fun c_12 => ?_) (fun c_12 => ?_)
                · skip
                  have c_12 := b_eq (by omega) (by omega) c_12
                  refine lv_aload_n hx hb dX8_street_181 rfl (lv_at hl 0 rfl) ?_
                  refine lv_aload_n hx hb dX8_street_182 rfl (lv_at hl 0 rfl) ?_
                  refine g_get hC V (ci := 8) uwX8 0 rfl rfl 11 (by decide) w_923 rfl rfl dX8_street_183 ?_
                  refine g_put hC V (ci := 8) uwX8 tyX8 tyX8_ok nmX8 0 rfl rfl 13 (by decide) w_925 rfl rfl rfl rfl (Nat.le_of_ble_eq_true rfl) (ws' := [(o, .inr (8, [.int (nI 0), .ref g1, .ref g2, .ref g3, .ref g4, .int (nI 0), .int (nI pq.1), .int (nI pq.2.1), .int (nI jn), .int (nI pq.2.2.1), .int pq.2.2.2.1, .int (nI pq.2.2.2.2.1), .int pq.2.2.2.2.2, .int (nI pq.2.2.2.2.1), .int w14, .ref g15, .int w16, .ref g17, .int w18, .int w19, .ref g20, .int w21, .ref g22, .ref g23, .ref g24, .int w25, .int w26, .int w27, .ref g28, .ref g29, .int w30, .ref g31, .ref g32, .ref g33])), (g1, .inl (T 0, 282, .inl fa)), (g3, .inl (T 0, 900, .inl ft)), (g4, .inl (T 0, 94, .inl f77))]) rfl dX8_street_186 (fun H locs V => ?_)
                  refine lv_aload_n hx hb dX8_street_189 rfl (lv_at hl 0 rfl) ?_
                  refine lv_aload_n hx hb dX8_street_190 rfl (lv_at hl 0 rfl) ?_
                  refine g_get hC V (ci := 8) uwX8 0 rfl rfl 11 (by decide) w_923 rfl rfl dX8_street_191 ?_
                  refine lv_if_ne (tgt := 201) hx hb dX8_street_194 (by decide) (fun c_13 => ?_) (fun c_13 => ?_)
                  · skip
                    rw [show (0 : Int32) = nI 0 from rfl] at c_13
                    have c_13 := b_ne (by omega) (by omega) c_13
                    exact (by omega : False).elim
                  · skip
                    rw [show (0 : Int32) = nI 0 from rfl] at c_13
                    have c_13 := b_eq (by omega) (by omega) c_13
                    refine lv_iconst (v := (-1)) hx hb dX8_street_197 (by decide +kernel) ?_
                    refine lv_goto (tgt := 205) hx hb dX8_street_198 (by decide) ?_
                    refine g_put hC V (ci := 8) uwX8 tyX8 tyX8_ok nmX8 0 rfl rfl 14 (by decide) w_926 rfl rfl rfl rfl (Nat.le_of_ble_eq_true rfl) (ws' := [(o, .inr (8, [.int (nI 0), .ref g1, .ref g2, .ref g3, .ref g4, .int (nI 0), .int (nI pq.1), .int (nI pq.2.1), .int (nI jn), .int (nI pq.2.2.1), .int pq.2.2.2.1, .int (nI pq.2.2.2.2.1), .int pq.2.2.2.2.2, .int (nI pq.2.2.2.2.1), .int (-1), .ref g15, .int w16, .ref g17, .int w18, .int w19, .ref g20, .int w21, .ref g22, .ref g23, .ref g24, .int w25, .int w26, .int w27, .ref g28, .ref g29, .int w30, .ref g31, .ref g32, .ref g33])), (g1, .inl (T 0, 282, .inl fa)), (g3, .inl (T 0, 900, .inl ft)), (g4, .inl (T 0, 94, .inl f77))]) rfl dX8_street_205 (fun H locs V => ?_)
                    refine lv_aload_n hx hb dX8_street_208 rfl (lv_at hl 0 rfl) ?_
                    refine g_get hC V (ci := 8) uwX8 0 rfl rfl 11 (by decide) w_923 rfl rfl dX8_street_209 ?_
                    refine lv_if_eq (tgt := 223) hx hb dX8_street_212 (by decide) (fun c_14 => ?_) (fun c_14 => ?_)
                    · skip
                      rw [show (0 : Int32) = nI 0 from rfl] at c_14
                      have c_14 := b_eq (by omega) (by omega) c_14
                      have hF2 := hfr c_14
                      have hn10 := hF2.1
                      refine lv_iconst (v := (nI 0)) hx hb dX8_street_223 (by decide +kernel) ?_
                      refine lv_istore_n (lv' := [(2, .int (nI 0)), (0, .ref o), (1, .int (nI jn))]) hx hb dX8_street_224 rfl hl (by decide) rfl (fun ls hl => ?_)
                      have L_15 : ∀ (fu : Nat) (k225 : Nat) (f225 : Nat → Int32), k225 ≤ 94 → (∀ j, j < k225 → f225 j = f77 j) → (∀ j, 94 ≤ j → f225 j = fa j) → 94 - k225 < fu → ∀ (H : Heap) (locs : List Loc) (ls : Array Slot), gW D T A s [(o, .inr (8, [.int (nI 0), .ref g1, .ref g2, .ref g3, .ref g4, .int (nI 0), .int (nI pq.1), .int (nI pq.2.1), .int (nI jn), .int (nI pq.2.2.1), .int pq.2.2.2.1, .int (nI pq.2.2.2.2.1), .int pq.2.2.2.2.2, .int (nI pq.2.2.2.2.1), .int (-1), .ref g15, .int w16, .ref g17, .int w18, .int w19, .ref g20, .int w21, .ref g22, .ref g23, .ref g24, .int w25, .int w26, .int w27, .ref g28, .ref g29, .int w30, .ref g31, .ref g32, .ref g33])), (g1, .inl (T 0, 282, .inl f225)), (g3, .inl (T 0, 900, .inl ft)), (g4, .inl (T 0, 94, .inl f77))] H locs → lv_has ls 3 [(2, .int (nI k225)), (0, .ref o), (1, .int (nI jn))] → W p l e (rmD 9 0 0) s m args below meth c H locs 0 0 (MQ below (gQ D A (q_m_street_f T n o n_ w0 g1 g2 g3 g4 tp w6 w7 w8 w9 w10 w11 w12 w13 w14 g15 w16 g17 w18 w19 g20 w21 g22 g23 g24 w25 w26 w27 g28 g29 w30 g31 g32 g33 fa ft ff)) args s 0 0 A) (F0 m 225 ls []) := by
                        intro fu_225
                        induction fu_225 with
                        | zero => intro k225 f225 hk225 h225a h225c hmu; exact absurd hmu (Nat.not_lt_zero _)
                        | succ fu_225 ih_225 =>
                          intro k225 f225 hk225 h225a h225c hmu_225 H locs ls V hl
                          refine lv_iload_n hx hb dX8_street_225 rfl (lv_at hl 0 rfl) ?_
                          refine lv_bipush (v := (nI 94)) hx hb dX8_street_226 (by decide +kernel) ?_
                          refine lv_icmp_ge (tgt := 249) hx hb dX8_street_228 (by decide) (fun c_16 => ?_) (fun c_16 => ?_)
                          · skip
                            have c_16 := b_le (by omega) (by omega) c_16
                            refine lv_iconst (v := (nI 0)) hx hb dX8_street_249 (by decide +kernel) ?_
                            refine lv_istore_n (lv' := [(2, .int (nI 0)), (0, .ref o), (1, .int (nI jn))]) hx hb dX8_street_250 rfl hl (by decide) rfl (fun ls hl => ?_)
                            have L_17 : ∀ (fu : Nat) (k251 : Nat) (f251 : Nat → Int32), k251 ≤ nq → (∀ j, j < 84 → f251 j = f77 j) → (∀ i, i < k251 → bd (f251 (84 + i)) nq) → (∀ j, 94 ≤ j → f251 j = fa j) → (∀ i, i < k251 → f251 (84 + i) = stR nq f77 i) → (∀ i, k251 ≤ i → i < 10 → f251 (84 + i) = f77 (84 + i)) → nq - k251 < fu → ∀ (H : Heap) (locs : List Loc) (ls : Array Slot), gW D T A s [(o, .inr (8, [.int (nI 0), .ref g1, .ref g2, .ref g3, .ref g4, .int (nI 0), .int (nI pq.1), .int (nI pq.2.1), .int (nI jn), .int (nI pq.2.2.1), .int pq.2.2.2.1, .int (nI pq.2.2.2.2.1), .int pq.2.2.2.2.2, .int (nI pq.2.2.2.2.1), .int (-1), .ref g15, .int w16, .ref g17, .int w18, .int w19, .ref g20, .int w21, .ref g22, .ref g23, .ref g24, .int w25, .int w26, .int w27, .ref g28, .ref g29, .int w30, .ref g31, .ref g32, .ref g33])), (g1, .inl (T 0, 282, .inl f251)), (g3, .inl (T 0, 900, .inl ft)), (g4, .inl (T 0, 94, .inl f77))] H locs → lv_has ls 3 [(2, .int (nI k251)), (0, .ref o), (1, .int (nI jn))] → W p l e (rmD 9 0 0) s m args below meth c H locs 0 0 (MQ below (gQ D A (q_m_street_f T n o n_ w0 g1 g2 g3 g4 tp w6 w7 w8 w9 w10 w11 w12 w13 w14 g15 w16 g17 w18 w19 g20 w21 g22 g23 g24 w25 w26 w27 g28 g29 w30 g31 g32 g33 fa ft ff)) args s 0 0 A) (F0 m 251 ls []) := by
                              intro fu_251
                              induction fu_251 with
                              | zero => intro k251 f251 hk251 h251a h251b h251c h251d h251e hmu; exact absurd hmu (Nat.not_lt_zero _)
                              | succ fu_251 ih_251 =>
                                intro k251 f251 hk251 h251a h251b h251c h251d h251e hmu_251 H locs ls V hl
                                refine lv_iload_n hx hb dX8_street_251 rfl (lv_at hl 0 rfl) ?_
                                refine lv_aload_n hx hb dX8_street_252 rfl (lv_at hl 1 rfl) ?_
                                refine g_get hC V (ci := 8) uwX8 0 rfl rfl 1 (by decide) w_913 rfl rfl dX8_street_253 ?_
                                refine lv_iconst (v := (nI 0)) hx hb dX8_street_256 (by decide +kernel) ?_
                                refine g_iald hC V 1 rfl (vp_in_nI (by decide) (by decide)) (v := (nI nq)) (by rw [nI_clamp (by decide)]; first | rfl | exact ((h251a 0 (by decide)).trans hF2.2.1) | exact h_a.2.1) dX8_street_257 ?_
                                refine lv_icmp_ge (tgt := 312) hx hb dX8_street_258 (by decide) (fun c_18 => ?_) (fun c_18 => ?_)
                                · skip
                                  have c_18 := b_le (by omega) (by omega) c_18
                                  refine lv_aload_n hx hb dX8_street_312 rfl (lv_at hl 1 rfl) ?_
                                  refine g_get hC V (ci := 8) uwX8 0 rfl rfl 1 (by decide) w_913 rfl rfl dX8_street_313 ?_
                                  refine lv_iconst (v := (nI 3)) hx hb dX8_street_316 (by decide +kernel) ?_
                                  refine g_iald hC V 1 rfl (vp_in_nI (by decide) (by decide)) (v := (f251 3)) (congrArg _ (nI_clamp (by decide))) dX8_street_317 ?_
                                  exact g_iret (Qr := (q_m_street_f T n o n_ w0 g1 g2 g3 g4 tp w6 w7 w8 w9 w10 w11 w12 w13 w14 g15 w16 g17 w18 w19 g20 w21 g22 g23 g24 w25 w26 w27 g28 g29 w30 g31 g32 g33 fa ft ff)) hC V ⟨(Nat.le_of_ble_eq_true rfl), (Nat.le_of_ble_eq_true rfl)⟩ (.inr ⟨(f251 3), jn, (nq, pq, f77), f251, nq, rfl, (by rw [show stP (nq, pq, f77) = -1 from if_pos (by assumption)]), ejn, (by omega), (FN_mk hit (by first | exact Or.inr (by assumption) | exact Or.inl (by assumption)) hns), ((h251a 3 (by decide)).trans (if_pos (by assumption)).symm), (stG_0 (by assumption) hn10 h251a (fun i hi => h251d i (by omega)) (fun i h1 h2 => h251e i (by omega) h2) h251c), (so_mi hF2 h251a (fun i hi => h251b i (by omega))), h251c, hP, (fun _ => hF2), (fun _ => rfl)⟩) dX8_street_318
                                · skip
                                  have c_18 := b_nle (by omega) (by omega) c_18
                                  refine lv_aload_n hx hb dX8_street_261 rfl (lv_at hl 1 rfl) ?_
                                  refine g_get hC V (ci := 8) uwX8 0 rfl rfl 1 (by decide) w_913 rfl rfl dX8_street_262 ?_
                                  refine lv_bipush (v := (nI 84)) hx hb dX8_street_265 (by decide +kernel) ?_
                                  refine lv_iload_n hx hb dX8_street_267 rfl (lv_at hl 0 rfl) ?_
                                  refine lv_iadd hx hb dX8_street_268 ?_
                                  refine g_vi (y := (nI (84 + k251))) (nI_add _ _) ?_
                                  refine lv_aload_n hx hb dX8_street_269 rfl (lv_at hl 1 rfl) ?_
                                  refine g_get hC V (ci := 8) uwX8 0 rfl rfl 4 (by decide) w_916 rfl rfl dX8_street_270 ?_
                                  refine lv_bipush (v := (nI 84)) hx hb dX8_street_273 (by decide +kernel) ?_
                                  refine lv_iload_n hx hb dX8_street_275 rfl (lv_at hl 0 rfl) ?_
                                  refine lv_iadd hx hb dX8_street_276 ?_
                                  refine g_vi (y := (nI (84 + k251))) (nI_add _ _) ?_
                                  obtain ⟨j_19, hj_19, ej_19⟩ := bd_ex (fr_to hF2 (i := k251) (by omega))
                                  refine g_iald hC V 3 rfl (vp_in_nI (by omega) (by omega)) (v := (nI j_19)) (by rw [nI_clamp (by omega)]; exact ej_19) dX8_street_277 ?_
                                  refine lv_if_le (tgt := 295) hx hb dX8_street_278 (by decide) (fun c_20 => ?_) (fun c_20 => ?_)
                                  · skip
                                    rw [show (0 : Int32) = nI 0 from rfl] at c_20
                                    have c_20 := b_le (by omega) (by omega) c_20
                                    refine lv_iload_n hx hb dX8_street_295 rfl (lv_at hl 0 rfl) ?_
                                    refine lv_iconst (v := (nI 1)) hx hb dX8_street_296 (by decide +kernel) ?_
                                    refine lv_iadd hx hb dX8_street_297 ?_
                                    refine g_vi (y := (nI (k251 + 1))) (nI_add _ _) ?_
                                    refine lv_aload_n hx hb dX8_street_298 rfl (lv_at hl 1 rfl) ?_
                                    refine g_get hC V (ci := 8) uwX8 0 rfl rfl 1 (by decide) w_913 rfl rfl dX8_street_299 ?_
                                    refine lv_iconst (v := (nI 0)) hx hb dX8_street_302 (by decide +kernel) ?_
                                    refine g_iald hC V 1 rfl (vp_in_nI (by decide) (by decide)) (v := (nI nq)) (by rw [nI_clamp (by decide)]; first | rfl | exact ((h251a 0 (by decide)).trans hF2.2.1) | exact h_a.2.1) dX8_street_303 ?_
                                    refine lv_irem hx hb dX8_street_304 (nI_ne0 (by omega) (by omega)) ?_
                                    refine g_vi (y := (nI ((k251 + 1) % nq))) (nI_rem (by omega) (by omega)) ?_
                                    refine g_iast hC V 1 rfl (vp_in_nI (by omega) (by omega)) (f' := (upd f251 (84 + k251) (nI ((k251 + 1) % nq)))) (by rw [nI_clamp (by omega)]) (ws' := [(o, .inr (8, [.int (nI 0), .ref g1, .ref g2, .ref g3, .ref g4, .int (nI 0), .int (nI pq.1), .int (nI pq.2.1), .int (nI jn), .int (nI pq.2.2.1), .int pq.2.2.2.1, .int (nI pq.2.2.2.2.1), .int pq.2.2.2.2.2, .int (nI pq.2.2.2.2.1), .int (-1), .ref g15, .int w16, .ref g17, .int w18, .int w19, .ref g20, .int w21, .ref g22, .ref g23, .ref g24, .int w25, .int w26, .int w27, .ref g28, .ref g29, .int w30, .ref g31, .ref g32, .ref g33])), (g1, .inl (T 0, 282, .inl (upd f251 (84 + k251) (nI ((k251 + 1) % nq))))), (g3, .inl (T 0, 900, .inl ft)), (g4, .inl (T 0, 94, .inl f77))]) rfl dX8_street_305 (fun H locs V => ?_)
                                    refine lv_iinc (v := (nI (k251 + 1))) (lv' := [(2, .int (nI (k251 + 1))), (0, .ref o), (1, .int (nI jn))]) hx hb dX8_street_306 hl (k := 0) rfl (nI_1 _) (by decide) rfl (fun ls hl => ?_)
                                    refine lv_goto (tgt := 251) hx hb dX8_street_309 (by decide) ?_
                                    exact ih_251 (k251 + 1) (upd f251 (84 + k251) (nI ((k251 + 1) % nq))) (by omega) (fun j hj => (up_other (by omega)).trans (h251a j hj)) (so_st h251b (by first | exact bd_nI (by omega) | exact bd_nI (Nat.mod_lt _ (by omega)) | exact bd_pred (by omega) (by assumption))) (fun j hj => (up_other (by omega)).trans (h251c j hj)) (up84 h251d (stR_2 ej_19 (by omega))) (fun i h1 h2 => (up_other (by omega)).trans (h251e i (by omega) h2)) (by omega) _ _ _ V (lv_sub hl [0, 1, 2] rfl)
                                  · skip
                                    rw [show (0 : Int32) = nI 0 from rfl] at c_20
                                    have c_20 := b_nle (by omega) (by omega) c_20
                                    refine lv_aload_n hx hb dX8_street_281 rfl (lv_at hl 1 rfl) ?_
                                    refine g_get hC V (ci := 8) uwX8 0 rfl rfl 4 (by decide) w_916 rfl rfl dX8_street_282 ?_
                                    refine lv_bipush (v := (nI 84)) hx hb dX8_street_285 (by decide +kernel) ?_
                                    refine lv_iload_n hx hb dX8_street_287 rfl (lv_at hl 0 rfl) ?_
                                    refine lv_iadd hx hb dX8_street_288 ?_
                                    refine g_vi (y := (nI (84 + k251))) (nI_add _ _) ?_
                                    refine g_iald hC V 3 rfl (vp_in_nI (by omega) (by omega)) (v := (nI j_19)) (by rw [nI_clamp (by omega)]; exact ej_19) dX8_street_289 ?_
                                    refine lv_iconst (v := (nI 1)) hx hb dX8_street_290 (by decide +kernel) ?_
                                    refine lv_isub hx hb dX8_street_291 ?_
                                    refine g_vi (y := (nI (j_19 - 1))) (nI_sub (by omega)) ?_
                                    refine lv_goto (tgt := 305) hx hb dX8_street_292 (by decide) ?_
                                    refine g_iast hC V 1 rfl (vp_in_nI (by omega) (by omega)) (f' := (upd f251 (84 + k251) (nI (j_19 - 1)))) (by rw [nI_clamp (by omega)]) (ws' := [(o, .inr (8, [.int (nI 0), .ref g1, .ref g2, .ref g3, .ref g4, .int (nI 0), .int (nI pq.1), .int (nI pq.2.1), .int (nI jn), .int (nI pq.2.2.1), .int pq.2.2.2.1, .int (nI pq.2.2.2.2.1), .int pq.2.2.2.2.2, .int (nI pq.2.2.2.2.1), .int (-1), .ref g15, .int w16, .ref g17, .int w18, .int w19, .ref g20, .int w21, .ref g22, .ref g23, .ref g24, .int w25, .int w26, .int w27, .ref g28, .ref g29, .int w30, .ref g31, .ref g32, .ref g33])), (g1, .inl (T 0, 282, .inl (upd f251 (84 + k251) (nI (j_19 - 1))))), (g3, .inl (T 0, 900, .inl ft)), (g4, .inl (T 0, 94, .inl f77))]) rfl dX8_street_305 (fun H locs V => ?_)
                                    refine lv_iinc (v := (nI (k251 + 1))) (lv' := [(2, .int (nI (k251 + 1))), (0, .ref o), (1, .int (nI jn))]) hx hb dX8_street_306 hl (k := 0) rfl (nI_1 _) (by decide) rfl (fun ls hl => ?_)
                                    refine lv_goto (tgt := 251) hx hb dX8_street_309 (by decide) ?_
                                    exact ih_251 (k251 + 1) (upd f251 (84 + k251) (nI (j_19 - 1))) (by omega) (fun j hj => (up_other (by omega)).trans (h251a j hj)) (so_st h251b (by first | exact bd_nI (by omega) | exact bd_nI (Nat.mod_lt _ (by omega)) | exact bd_pred (by omega) (by assumption))) (fun j hj => (up_other (by omega)).trans (h251c j hj)) (up84 h251d (stR_1 ej_19 (by omega) (by omega))) (fun i h1 h2 => (up_other (by omega)).trans (h251e i (by omega) h2)) (by omega) _ _ _ V (lv_sub hl [0, 1, 2] rfl)
                            exact L_17 _ 0 f225 (by omega) (fun j hj => h225a j (by omega)) (fun i h => absurd h (Nat.not_lt_zero _)) h225c (fun i h => absurd h (Nat.not_lt_zero _)) (fun i _ hi => h225a _ (by omega)) (Nat.lt_succ_self _) _ _ _ V (lv_sub hl [0, 1, 2] rfl)
                          · skip
                            have c_16 := b_nle (by omega) (by omega) c_16
                            refine lv_aload_n hx hb dX8_street_231 rfl (lv_at hl 1 rfl) ?_
                            refine g_get hC V (ci := 8) uwX8 0 rfl rfl 1 (by decide) w_913 rfl rfl dX8_street_232 ?_
                            refine lv_iload_n hx hb dX8_street_235 rfl (lv_at hl 0 rfl) ?_
                            refine lv_aload_n hx hb dX8_street_236 rfl (lv_at hl 1 rfl) ?_
                            refine g_get hC V (ci := 8) uwX8 0 rfl rfl 4 (by decide) w_916 rfl rfl dX8_street_237 ?_
                            refine lv_iload_n hx hb dX8_street_240 rfl (lv_at hl 0 rfl) ?_
                            refine g_iald hC V 3 rfl (vp_in_nI (by omega) (by omega)) (v := (f77 k225)) (congrArg _ (nI_clamp (by omega))) dX8_street_241 ?_
                            refine g_iast hC V 1 rfl (vp_in_nI (by omega) (by omega)) (f' := (upd f225 k225 (f77 k225))) (by rw [nI_clamp (by omega)]) (ws' := [(o, .inr (8, [.int (nI 0), .ref g1, .ref g2, .ref g3, .ref g4, .int (nI 0), .int (nI pq.1), .int (nI pq.2.1), .int (nI jn), .int (nI pq.2.2.1), .int pq.2.2.2.1, .int (nI pq.2.2.2.2.1), .int pq.2.2.2.2.2, .int (nI pq.2.2.2.2.1), .int (-1), .ref g15, .int w16, .ref g17, .int w18, .int w19, .ref g20, .int w21, .ref g22, .ref g23, .ref g24, .int w25, .int w26, .int w27, .ref g28, .ref g29, .int w30, .ref g31, .ref g32, .ref g33])), (g1, .inl (T 0, 282, .inl (upd f225 k225 (f77 k225)))), (g3, .inl (T 0, 900, .inl ft)), (g4, .inl (T 0, 94, .inl f77))]) rfl dX8_street_242 (fun H locs V => ?_)
                            refine lv_iinc (v := (nI (k225 + 1))) (lv' := [(2, .int (nI (k225 + 1))), (0, .ref o), (1, .int (nI jn))]) hx hb dX8_street_243 hl (k := 0) rfl (nI_1 _) (by decide) rfl (fun ls hl => ?_)
                            refine lv_goto (tgt := 225) hx hb dX8_street_246 (by decide) ?_
                            exact ih_225 (k225 + 1) (upd f225 k225 (f77 k225)) (by omega) (up_one (p := fun j y => y = f77 j) h225a rfl) (fun j hj => (up_other (by omega)).trans (h225c j hj)) (by omega) _ _ _ V (lv_sub hl [0, 1, 2] rfl)
                      exact L_15 _ 0 fa (by omega) (fun i h => absurd h (Nat.not_lt_zero _)) (fun _ _ => rfl) (Nat.lt_succ_self _) _ _ _ V (lv_sub hl [0, 1, 2] rfl)
                    · skip
                      rw [show (0 : Int32) = nI 0 from rfl] at c_14
                      have c_14 := b_ne (by omega) (by omega) c_14
                      exact (by omega : False).elim
                · skip
                  have c_12 := b_ne (by omega) (by omega) c_12
                  have hk11 := c_12
                  refine lv_aload_n hx hb dX8_street_93 rfl (lv_at hl 0 rfl) ?_
                  refine lv_iconst (v := (nI 0)) hx hb dX8_street_94 (by decide +kernel) ?_
                  refine g_callVU (nA := 1) hC V hl.1 (m_is_f l D T pq jn o 0 (nI 0) g1 g2 g3 g4 0 w13 w14 g15 w16 g17 w18 w19 g20 w21 g22 g23 g24 w25 w26 w27 g28 g29 w30 g31 g32 g33 (by first | assumption | omega) (by first | assumption | omega) (by first | assumption | omega)) w_1047 w_1049 w_s39 w_9 w_1050 (by decide +kernel) rfl ⟨(Nat.le_of_ble_eq_true rfl), (Nat.le_of_ble_eq_true rfl)⟩ 0 (ci := 8) rfl rfl [0] rfl rfl (Nat.le_of_ble_eq_true rfl) dX8_street_95 ⟨(Nat.le_of_ble_eq_true rfl), (Nat.le_of_ble_eq_true rfl)⟩ rfl (fun r w1 H locs hQ V => ?_)
                  rcases hQ with ⟨rfl, rfl, f_21, f_22⟩ | ⟨rfl, rfl, f_23⟩
                  · have V : gW D T A s [(o, .inr (8, [.int (nI 0), .ref g1, .ref g2, .ref g3, .ref g4, .int (nI 0), .int (nI pq.1), .int (nI pq.2.1), .int (nI jn), .int (nI pq.2.2.1), .int pq.2.2.2.1, .int (nI pq.2.2.2.2.1), .int pq.2.2.2.2.2, .int w13, .int w14, .ref g15, .int w16, .ref g17, .int w18, .int w19, .ref g20, .int w21, .ref g22, .ref g23, .ref g24, .int w25, .int w26, .int w27, .ref g28, .ref g29, .int w30, .ref g31, .ref g32, .ref g33])), (g1, .inl (T 0, 282, .inl fa)), (g3, .inl (T 0, 900, .inl ft)), (g4, .inl (T 0, 94, .inl f77))] H locs := V _ [0] rfl rfl rfl (by decide +kernel) rfl
                    show W p l e _ s m args below meth c H locs _ _ _ (F0 m 98 ls [.int (nI 1)])
                    have hk0 := f_22
                    refine lv_if_eq (tgt := 108) hx hb dX8_street_98 (by decide) (fun c => absurd (show (nI 1) = 0 from c) (by decide +kernel)) (fun _ => ?_)
                    refine lv_aload_n hx hb dX8_street_101 rfl (lv_at hl 0 rfl) ?_
                    refine g_callVU (nA := 0) hC V hl.1 (m_readSmith_f l D T pq nq o (nI 0) g1 g2 g3 g4 0 jn w13 w14 g15 w16 g17 w18 w19 g20 w21 g22 g23 g24 w25 w26 w27 g28 g29 w30 g31 g32 g33 ft f77 (by first | assumption | omega) (by first | assumption | omega) (by first | assumption | omega) (by first | assumption | omega)) w_1051 w_1053 w_s40 w_9 w_1054 (by decide +kernel) rfl ⟨(Nat.le_of_ble_eq_true rfl), (Nat.le_of_ble_eq_true rfl)⟩ 0 (ci := 8) rfl rfl [0, 2, 3] rfl rfl (Nat.le_of_ble_eq_true rfl) dX8_street_102 ⟨(Nat.le_of_ble_eq_true rfl), (Nat.le_of_ble_eq_true rfl)⟩ rfl (fun r w1 H locs hQ V => ?_)
                    obtain ⟨p2_24, gf_25, rfl, rfl, f_26, f_27⟩ := hQ
                    have V : gW D T A s [(o, .inr (8, [.int (nI 0), .ref g1, .ref g2, .ref g3, .ref g4, .int (nI 0), .int (nI p2_24.1), .int (nI p2_24.2.1), .int (nI jn), .int (nI p2_24.2.2.1), .int p2_24.2.2.2.1, .int (nI p2_24.2.2.2.2.1), .int p2_24.2.2.2.2.2, .int w13, .int w14, .ref g15, .int w16, .ref g17, .int w18, .int w19, .ref g20, .int w21, .ref g22, .ref g23, .ref g24, .int w25, .int w26, .int w27, .ref g28, .ref g29, .int w30, .ref g31, .ref g32, .ref g33])), (g1, .inl (T 0, 282, .inl fa)), (g3, .inl (T 0, 900, .inl ft)), (g4, .inl (T 0, 94, .inl gf_25))] H locs := V _ [0, 1, 0] rfl rfl rfl (by decide +kernel) rfl
                    show W p l e _ s m args below meth c H locs _ _ _ (F0 m 105 ls [])
                    have hPl : PI ft jn p2_24 := by rw [f_26]; exact PI_sm hP
                    obtain ⟨_, _, _, _, -⟩ := id hPl
                    have hFs : FR (smN ft jn nq pq) gf_25 := by rw [f_27]; exact FR_sm hF
                    refine lv_goto (tgt := 154) hx hb dX8_street_105 (by decide) ?_
                    refine lv_aload_n hx hb dX8_street_154 rfl (lv_at hl 0 rfl) ?_
                    refine lv_bipush (v := (nI 10)) hx hb dX8_street_155 (by decide +kernel) ?_
                    refine g_callVU (nA := 1) hC V hl.1 (m_eats_f l D T p2_24 o 10 (nI 0) g1 g2 g3 g4 0 jn w13 w14 g15 w16 g17 w18 w19 g20 w21 g22 g23 g24 w25 w26 w27 g28 g29 w30 g31 g32 g33 ft (by first | assumption | omega) (by first | assumption | omega) (by first | assumption | omega)) w_1067 w_1069 w_s44 w_9 w_1070 (by decide +kernel) rfl ⟨(Nat.le_of_ble_eq_true rfl), (Nat.le_of_ble_eq_true rfl)⟩ 0 (ci := 8) rfl rfl [0, 2] rfl rfl (Nat.le_of_ble_eq_true rfl) dX8_street_157 ⟨(Nat.le_of_ble_eq_true rfl), (Nat.le_of_ble_eq_true rfl)⟩ rfl (fun r w1 H locs hQ V => ?_)
                    rcases hQ with ⟨p2_28, rfl, rfl, f_29, f_30, f_31⟩ | ⟨rfl, rfl, f_32⟩
                    · have V : gW D T A s [(o, .inr (8, [.int (nI 0), .ref g1, .ref g2, .ref g3, .ref g4, .int (nI 0), .int (nI p2_28.1), .int (nI p2_28.2.1), .int (nI jn), .int (nI p2_28.2.2.1), .int p2_28.2.2.2.1, .int (nI p2_28.2.2.2.2.1), .int p2_28.2.2.2.2.2, .int w13, .int w14, .ref g15, .int w16, .ref g17, .int w18, .int w19, .ref g20, .int w21, .ref g22, .ref g23, .ref g24, .int w25, .int w26, .int w27, .ref g28, .ref g29, .int w30, .ref g31, .ref g32, .ref g33])), (g1, .inl (T 0, 282, .inl fa)), (g3, .inl (T 0, 900, .inl ft)), (g4, .inl (T 0, 94, .inl gf_25))] H locs := V _ [0, 1] rfl rfl rfl (by decide +kernel) rfl
                      show W p l e _ s m args below meth c H locs _ _ _ (F0 m 160 ls [.int (nI 1)])
                      have hP2 : PI ft jn p2_28 := by rw [f_29]; exact PI_nxI hPl
                      obtain ⟨_, _, _, _, -⟩ := id hP2
                      refine lv_if_ne (tgt := 168) hx hb dX8_street_160 (by decide) (fun _ => ?_) (fun c => absurd (show (nI 1) = 0 from c) (by decide +kernel))
                      refine lv_aload_n hx hb dX8_street_168 rfl (lv_at hl 0 rfl) ?_
                      refine g_get hC V (ci := 8) uwX8 0 rfl rfl 4 (by decide) w_916 rfl rfl dX8_street_169 ?_
                      refine lv_iconst (v := (nI 3)) hx hb dX8_street_172 (by decide +kernel) ?_
                      refine lv_dup2_11 hx hb dX8_street_173 rfl rfl ?_
                      refine g_iald hC V 3 rfl (vp_in_nI (by decide) (by decide)) (v := (gf_25 3)) (congrArg _ (nI_clamp (by decide))) dX8_street_174 ?_
                      refine lv_iconst (v := (nI 1)) hx hb dX8_street_175 (by decide +kernel) ?_
                      refine lv_iadd hx hb dX8_street_176 ?_
                      refine g_iast hC V 3 rfl (vp_in_nI (by decide) (by decide)) (f' := (upd gf_25 3 ((gf_25 3) + (nI 1)))) (by rw [nI_clamp (by decide)]) (ws' := [(o, .inr (8, [.int (nI 0), .ref g1, .ref g2, .ref g3, .ref g4, .int (nI 0), .int (nI p2_28.1), .int (nI p2_28.2.1), .int (nI jn), .int (nI p2_28.2.2.1), .int p2_28.2.2.2.1, .int (nI p2_28.2.2.2.2.1), .int p2_28.2.2.2.2.2, .int w13, .int w14, .ref g15, .int w16, .ref g17, .int w18, .int w19, .ref g20, .int w21, .ref g22, .ref g23, .ref g24, .int w25, .int w26, .int w27, .ref g28, .ref g29, .int w30, .ref g31, .ref g32, .ref g33])), (g1, .inl (T 0, 282, .inl fa)), (g3, .inl (T 0, 900, .inl ft)), (g4, .inl (T 0, 94, .inl (upd gf_25 3 ((gf_25 3) + (nI 1)))))]) rfl dX8_street_177 (fun H locs V => ?_)
                      have hl1 : lnA ft jn (nq, pq, f77) = ((smN ft jn nq pq), p2_24, gf_25) := (by rw [ln_sm (n := nq) (p := pq) (f := f77) hk0, ← f_26, ← f_27])
                      have hl2 : p2_28 = edS ft jn p2_24 := (f_29.trans (ed_y f_30 f_31).symm)
                      have hln2 : ((smN ft jn nq pq), p2_28, upd gf_25 3 (gf_25 3 + nI 1)) = lnS ft jn (nq, pq, f77) := by unfold lnS; rw [hl1, ← hl2]
                      have hln : ((smN ft jn nq pq), p2_28, upd gf_25 3 (gf_25 3 + nI 1)) = itS ft jn (0, nxS ft jn (0, 0, 0, w10, 0, w12), frI ff) (kq + 1) := by show _ = lnS ft jn (itS ft jn (0, nxS ft jn (0, 0, 0, w10, 0, w12), frI ff) kq); rw [← hit]; exact hln2
                      refine lv_goto (tgt := 77) hx hb dX8_street_178 (by decide) ?_
                      exact ih_77 (upd gf_25 3 ((gf_25 3) + (nI 1))) p2_28 (smN ft jn nq pq) (kq + 1) hln (no_stp hit hw0 hk11 hns) hP2 (fun _ => fr_line hFs) (Nat.lt_of_lt_of_le (rdS_dec hP hw0 hk11 hln2) (Nat.le_of_lt_succ hmu_77)) _ _ _ V (lv_sub hl [0, 1] rfl)
                    · have V : gW D T A s [(o, .inr (8, [.int (nI 0), .ref g1, .ref g2, .ref g3, .ref g4, .int (nI 0), .int (nI p2_24.1), .int (nI p2_24.2.1), .int (nI jn), .int (nI p2_24.2.2.1), .int p2_24.2.2.2.1, .int (nI p2_24.2.2.2.2.1), .int p2_24.2.2.2.2.2, .int w13, .int w14, .ref g15, .int w16, .ref g17, .int w18, .int w19, .ref g20, .int w21, .ref g22, .ref g23, .ref g24, .int w25, .int w26, .int w27, .ref g28, .ref g29, .int w30, .ref g31, .ref g32, .ref g33])), (g1, .inl (T 0, 282, .inl fa)), (g3, .inl (T 0, 900, .inl ft)), (g4, .inl (T 0, 94, .inl gf_25))] H locs := V _ [0, 1] rfl rfl rfl (by decide +kernel) rfl
                      show W p l e _ s m args below meth c H locs _ _ _ (F0 m 160 ls [.int (nI 0)])
                      refine lv_if_ne (tgt := 168) hx hb dX8_street_160 (by decide) (fun c => absurd (show (nI 0) = 0 by decide +kernel) c) (fun _ => ?_)
                      refine lv_aload_n hx hb dX8_street_163 rfl (lv_at hl 0 rfl) ?_
                      refine lv_iconst (v := (nI 2)) hx hb dX8_street_164 (by decide +kernel) ?_
                      refine g_callVU (nA := 1) hC V hl.1 (m_fails_f l D T p2_24 jn o 2 (nI 0) g1 g2 g3 g4 0 w13 w14 g15 w16 g17 w18 w19 g20 w21 g22 g23 g24 w25 w26 w27 g28 g29 w30 g31 g32 g33 (by first | assumption | omega) (by first | assumption | omega)) w_1055 w_1057 w_s41 w_9 w_1058 (by decide +kernel) rfl ⟨(Nat.le_of_ble_eq_true rfl), (Nat.le_of_ble_eq_true rfl)⟩ 0 (ci := 8) rfl rfl [0] rfl rfl (Nat.le_of_ble_eq_true rfl) dX8_street_165 ⟨(Nat.le_of_ble_eq_true rfl), (Nat.le_of_ble_eq_true rfl)⟩ rfl (fun r w1 H locs hQ V => ?_)
                      obtain ⟨p2_33, rfl, rfl, f_34⟩ := hQ
                      have V : gW D T A s [(o, .inr (8, [.int (nI 0), .ref g1, .ref g2, .ref g3, .ref g4, .int (nI 0), .int (nI p2_33.1), .int (nI p2_33.2.1), .int (nI jn), .int (nI p2_33.2.2.1), .int p2_33.2.2.2.1, .int (nI p2_33.2.2.2.2.1), .int p2_33.2.2.2.2.2, .int w13, .int w14, .ref g15, .int w16, .ref g17, .int w18, .int w19, .ref g20, .int w21, .ref g22, .ref g23, .ref g24, .int w25, .int w26, .int w27, .ref g28, .ref g29, .int w30, .ref g31, .ref g32, .ref g33])), (g1, .inl (T 0, 282, .inl fa)), (g3, .inl (T 0, 900, .inl ft)), (g4, .inl (T 0, 94, .inl gf_25))] H locs := V _ [0] rfl rfl rfl (by decide +kernel) rfl
                      show W p l e _ s m args below meth c H locs _ _ _ (F0 m 168 ls [])
                      have hP2 : PI ft jn p2_33 := by rw [f_34]; exact PI_fa hPl (by decide)
                      obtain ⟨_, _, _, _, -⟩ := id hP2
                      refine lv_aload_n hx hb dX8_street_168 rfl (lv_at hl 0 rfl) ?_
                      refine g_get hC V (ci := 8) uwX8 0 rfl rfl 4 (by decide) w_916 rfl rfl dX8_street_169 ?_
                      refine lv_iconst (v := (nI 3)) hx hb dX8_street_172 (by decide +kernel) ?_
                      refine lv_dup2_11 hx hb dX8_street_173 rfl rfl ?_
                      refine g_iald hC V 3 rfl (vp_in_nI (by decide) (by decide)) (v := (gf_25 3)) (congrArg _ (nI_clamp (by decide))) dX8_street_174 ?_
                      refine lv_iconst (v := (nI 1)) hx hb dX8_street_175 (by decide +kernel) ?_
                      refine lv_iadd hx hb dX8_street_176 ?_
                      refine g_iast hC V 3 rfl (vp_in_nI (by decide) (by decide)) (f' := (upd gf_25 3 ((gf_25 3) + (nI 1)))) (by rw [nI_clamp (by decide)]) (ws' := [(o, .inr (8, [.int (nI 0), .ref g1, .ref g2, .ref g3, .ref g4, .int (nI 0), .int (nI p2_33.1), .int (nI p2_33.2.1), .int (nI jn), .int (nI p2_33.2.2.1), .int p2_33.2.2.2.1, .int (nI p2_33.2.2.2.2.1), .int p2_33.2.2.2.2.2, .int w13, .int w14, .ref g15, .int w16, .ref g17, .int w18, .int w19, .ref g20, .int w21, .ref g22, .ref g23, .ref g24, .int w25, .int w26, .int w27, .ref g28, .ref g29, .int w30, .ref g31, .ref g32, .ref g33])), (g1, .inl (T 0, 282, .inl fa)), (g3, .inl (T 0, 900, .inl ft)), (g4, .inl (T 0, 94, .inl (upd gf_25 3 ((gf_25 3) + (nI 1)))))]) rfl dX8_street_177 (fun H locs V => ?_)
                      have hl1 : lnA ft jn (nq, pq, f77) = ((smN ft jn nq pq), p2_24, gf_25) := (by rw [ln_sm (n := nq) (p := pq) (f := f77) hk0, ← f_26, ← f_27])
                      have hl2 : p2_33 = edS ft jn p2_24 := (f_34.trans (ed_n f_32).symm)
                      have hln2 : ((smN ft jn nq pq), p2_33, upd gf_25 3 (gf_25 3 + nI 1)) = lnS ft jn (nq, pq, f77) := by unfold lnS; rw [hl1, ← hl2]
                      have hln : ((smN ft jn nq pq), p2_33, upd gf_25 3 (gf_25 3 + nI 1)) = itS ft jn (0, nxS ft jn (0, 0, 0, w10, 0, w12), frI ff) (kq + 1) := by show _ = lnS ft jn (itS ft jn (0, nxS ft jn (0, 0, 0, w10, 0, w12), frI ff) kq); rw [← hit]; exact hln2
                      refine lv_goto (tgt := 77) hx hb dX8_street_178 (by decide) ?_
                      exact ih_77 (upd gf_25 3 ((gf_25 3) + (nI 1))) p2_33 (smN ft jn nq pq) (kq + 1) hln (no_stp hit hw0 hk11 hns) hP2 (fun _ => fr_line hFs) (Nat.lt_of_lt_of_le (rdS_dec hP hw0 hk11 hln2) (Nat.le_of_lt_succ hmu_77)) _ _ _ V (lv_sub hl [0, 1] rfl)
                  · have V : gW D T A s [(o, .inr (8, [.int (nI 0), .ref g1, .ref g2, .ref g3, .ref g4, .int (nI 0), .int (nI pq.1), .int (nI pq.2.1), .int (nI jn), .int (nI pq.2.2.1), .int pq.2.2.2.1, .int (nI pq.2.2.2.2.1), .int pq.2.2.2.2.2, .int w13, .int w14, .ref g15, .int w16, .ref g17, .int w18, .int w19, .ref g20, .int w21, .ref g22, .ref g23, .ref g24, .int w25, .int w26, .int w27, .ref g28, .ref g29, .int w30, .ref g31, .ref g32, .ref g33])), (g1, .inl (T 0, 282, .inl fa)), (g3, .inl (T 0, 900, .inl ft)), (g4, .inl (T 0, 94, .inl f77))] H locs := V _ [0] rfl rfl rfl (by decide +kernel) rfl
                    show W p l e _ s m args below meth c H locs _ _ _ (F0 m 98 ls [.int (nI 0)])
                    refine lv_if_eq (tgt := 108) hx hb dX8_street_98 (by decide) (fun _ => ?_) (fun c => absurd (show (nI 0) = 0 by decide +kernel) c)
                    refine lv_aload_n hx hb dX8_street_108 rfl (lv_at hl 0 rfl) ?_
                    refine lv_bipush (v := (nI 6)) hx hb dX8_street_109 (by decide +kernel) ?_
                    refine g_callVU (nA := 1) hC V hl.1 (m_eats_f l D T pq o 6 (nI 0) g1 g2 g3 g4 0 jn w13 w14 g15 w16 g17 w18 w19 g20 w21 g22 g23 g24 w25 w26 w27 g28 g29 w30 g31 g32 g33 ft (by first | assumption | omega) (by first | assumption | omega) (by first | assumption | omega)) w_1067 w_1069 w_s44 w_9 w_1070 (by decide +kernel) rfl ⟨(Nat.le_of_ble_eq_true rfl), (Nat.le_of_ble_eq_true rfl)⟩ 0 (ci := 8) rfl rfl [0, 2] rfl rfl (Nat.le_of_ble_eq_true rfl) dX8_street_111 ⟨(Nat.le_of_ble_eq_true rfl), (Nat.le_of_ble_eq_true rfl)⟩ rfl (fun r w1 H locs hQ V => ?_)
                    rcases hQ with ⟨p2_35, rfl, rfl, f_36, f_37, f_38⟩ | ⟨rfl, rfl, f_39⟩
                    · have V : gW D T A s [(o, .inr (8, [.int (nI 0), .ref g1, .ref g2, .ref g3, .ref g4, .int (nI 0), .int (nI p2_35.1), .int (nI p2_35.2.1), .int (nI jn), .int (nI p2_35.2.2.1), .int p2_35.2.2.2.1, .int (nI p2_35.2.2.2.2.1), .int p2_35.2.2.2.2.2, .int w13, .int w14, .ref g15, .int w16, .ref g17, .int w18, .int w19, .ref g20, .int w21, .ref g22, .ref g23, .ref g24, .int w25, .int w26, .int w27, .ref g28, .ref g29, .int w30, .ref g31, .ref g32, .ref g33])), (g1, .inl (T 0, 282, .inl fa)), (g3, .inl (T 0, 900, .inl ft)), (g4, .inl (T 0, 94, .inl f77))] H locs := V _ [0, 1] rfl rfl rfl (by decide +kernel) rfl
                      show W p l e _ s m args below meth c H locs _ _ _ (F0 m 114 ls [.int (nI 1)])
                      have hPe : PI ft jn p2_35 := by rw [f_36]; exact PI_nxI hP
                      obtain ⟨_, _, _, _, -⟩ := id hPe
                      refine lv_if_eq (tgt := 124) hx hb dX8_street_114 (by decide) (fun c => absurd (show (nI 1) = 0 from c) (by decide +kernel)) (fun _ => ?_)
                      refine lv_aload_n hx hb dX8_street_117 rfl (lv_at hl 0 rfl) ?_
                      refine g_callVU (nA := 0) hC V hl.1 (m_readBlows_f l D T p2_35 nq o (nI 0) g1 g2 g3 g4 0 jn w13 w14 g15 w16 g17 w18 w19 g20 w21 g22 g23 g24 w25 w26 w27 g28 g29 w30 g31 g32 g33 ft f77 (by first | assumption | omega) (by first | assumption | omega) (by first | assumption | omega)) w_1071 w_1073 w_s45 w_9 w_1074 (by decide +kernel) rfl ⟨(Nat.le_of_ble_eq_true rfl), (Nat.le_of_ble_eq_true rfl)⟩ 0 (ci := 8) rfl rfl [0, 2, 3] rfl rfl (Nat.le_of_ble_eq_true rfl) dX8_street_118 ⟨(Nat.le_of_ble_eq_true rfl), (Nat.le_of_ble_eq_true rfl)⟩ rfl (fun r w1 H locs hQ V => ?_)
                      obtain ⟨p2_40, gf_41, rfl, rfl, f_42, f_43⟩ := hQ
                      have V : gW D T A s [(o, .inr (8, [.int (nI 0), .ref g1, .ref g2, .ref g3, .ref g4, .int (nI 0), .int (nI p2_40.1), .int (nI p2_40.2.1), .int (nI jn), .int (nI p2_40.2.2.1), .int p2_40.2.2.2.1, .int (nI p2_40.2.2.2.2.1), .int p2_40.2.2.2.2.2, .int w13, .int w14, .ref g15, .int w16, .ref g17, .int w18, .int w19, .ref g20, .int w21, .ref g22, .ref g23, .ref g24, .int w25, .int w26, .int w27, .ref g28, .ref g29, .int w30, .ref g31, .ref g32, .ref g33])), (g1, .inl (T 0, 282, .inl fa)), (g3, .inl (T 0, 900, .inl ft)), (g4, .inl (T 0, 94, .inl gf_41))] H locs := V _ [0, 1, 0] rfl rfl rfl (by decide +kernel) rfl
                      show W p l e _ s m args below meth c H locs _ _ _ (F0 m 121 ls [])
                      have hPl : PI ft jn p2_40 := by rw [f_42]; exact PI_bl hPe
                      obtain ⟨_, _, _, _, -⟩ := id hPl
                      have hFs : FR nq gf_41 := by rw [f_43]; exact FR_bl hF
                      refine lv_goto (tgt := 154) hx hb dX8_street_121 (by decide) ?_
                      refine lv_aload_n hx hb dX8_street_154 rfl (lv_at hl 0 rfl) ?_
                      refine lv_bipush (v := (nI 10)) hx hb dX8_street_155 (by decide +kernel) ?_
                      refine g_callVU (nA := 1) hC V hl.1 (m_eats_f l D T p2_40 o 10 (nI 0) g1 g2 g3 g4 0 jn w13 w14 g15 w16 g17 w18 w19 g20 w21 g22 g23 g24 w25 w26 w27 g28 g29 w30 g31 g32 g33 ft (by first | assumption | omega) (by first | assumption | omega) (by first | assumption | omega)) w_1067 w_1069 w_s44 w_9 w_1070 (by decide +kernel) rfl ⟨(Nat.le_of_ble_eq_true rfl), (Nat.le_of_ble_eq_true rfl)⟩ 0 (ci := 8) rfl rfl [0, 2] rfl rfl (Nat.le_of_ble_eq_true rfl) dX8_street_157 ⟨(Nat.le_of_ble_eq_true rfl), (Nat.le_of_ble_eq_true rfl)⟩ rfl (fun r w1 H locs hQ V => ?_)
                      rcases hQ with ⟨p2_44, rfl, rfl, f_45, f_46, f_47⟩ | ⟨rfl, rfl, f_48⟩
                      · have V : gW D T A s [(o, .inr (8, [.int (nI 0), .ref g1, .ref g2, .ref g3, .ref g4, .int (nI 0), .int (nI p2_44.1), .int (nI p2_44.2.1), .int (nI jn), .int (nI p2_44.2.2.1), .int p2_44.2.2.2.1, .int (nI p2_44.2.2.2.2.1), .int p2_44.2.2.2.2.2, .int w13, .int w14, .ref g15, .int w16, .ref g17, .int w18, .int w19, .ref g20, .int w21, .ref g22, .ref g23, .ref g24, .int w25, .int w26, .int w27, .ref g28, .ref g29, .int w30, .ref g31, .ref g32, .ref g33])), (g1, .inl (T 0, 282, .inl fa)), (g3, .inl (T 0, 900, .inl ft)), (g4, .inl (T 0, 94, .inl gf_41))] H locs := V _ [0, 1] rfl rfl rfl (by decide +kernel) rfl
                        show W p l e _ s m args below meth c H locs _ _ _ (F0 m 160 ls [.int (nI 1)])
                        have hP2 : PI ft jn p2_44 := by rw [f_45]; exact PI_nxI hPl
                        obtain ⟨_, _, _, _, -⟩ := id hP2
                        refine lv_if_ne (tgt := 168) hx hb dX8_street_160 (by decide) (fun _ => ?_) (fun c => absurd (show (nI 1) = 0 from c) (by decide +kernel))
                        refine lv_aload_n hx hb dX8_street_168 rfl (lv_at hl 0 rfl) ?_
                        refine g_get hC V (ci := 8) uwX8 0 rfl rfl 4 (by decide) w_916 rfl rfl dX8_street_169 ?_
                        refine lv_iconst (v := (nI 3)) hx hb dX8_street_172 (by decide +kernel) ?_
                        refine lv_dup2_11 hx hb dX8_street_173 rfl rfl ?_
                        refine g_iald hC V 3 rfl (vp_in_nI (by decide) (by decide)) (v := (gf_41 3)) (congrArg _ (nI_clamp (by decide))) dX8_street_174 ?_
                        refine lv_iconst (v := (nI 1)) hx hb dX8_street_175 (by decide +kernel) ?_
                        refine lv_iadd hx hb dX8_street_176 ?_
                        refine g_iast hC V 3 rfl (vp_in_nI (by decide) (by decide)) (f' := (upd gf_41 3 ((gf_41 3) + (nI 1)))) (by rw [nI_clamp (by decide)]) (ws' := [(o, .inr (8, [.int (nI 0), .ref g1, .ref g2, .ref g3, .ref g4, .int (nI 0), .int (nI p2_44.1), .int (nI p2_44.2.1), .int (nI jn), .int (nI p2_44.2.2.1), .int p2_44.2.2.2.1, .int (nI p2_44.2.2.2.2.1), .int p2_44.2.2.2.2.2, .int w13, .int w14, .ref g15, .int w16, .ref g17, .int w18, .int w19, .ref g20, .int w21, .ref g22, .ref g23, .ref g24, .int w25, .int w26, .int w27, .ref g28, .ref g29, .int w30, .ref g31, .ref g32, .ref g33])), (g1, .inl (T 0, 282, .inl fa)), (g3, .inl (T 0, 900, .inl ft)), (g4, .inl (T 0, 94, .inl (upd gf_41 3 ((gf_41 3) + (nI 1)))))]) rfl dX8_street_177 (fun H locs V => ?_)
                        have hl1 : lnA ft jn (nq, pq, f77) = (nq, p2_40, gf_41) := (by rw [ln_bl (n := nq) (p := pq) (f := f77) f_38, ← f_36, ← f_42, ← f_43])
                        have hl2 : p2_44 = edS ft jn p2_40 := (f_45.trans (ed_y f_46 f_47).symm)
                        have hln2 : (nq, p2_44, upd gf_41 3 (gf_41 3 + nI 1)) = lnS ft jn (nq, pq, f77) := by unfold lnS; rw [hl1, ← hl2]
                        have hln : (nq, p2_44, upd gf_41 3 (gf_41 3 + nI 1)) = itS ft jn (0, nxS ft jn (0, 0, 0, w10, 0, w12), frI ff) (kq + 1) := by show _ = lnS ft jn (itS ft jn (0, nxS ft jn (0, 0, 0, w10, 0, w12), frI ff) kq); rw [← hit]; exact hln2
                        refine lv_goto (tgt := 77) hx hb dX8_street_178 (by decide) ?_
                        exact ih_77 (upd gf_41 3 ((gf_41 3) + (nI 1))) p2_44 nq (kq + 1) hln (no_stp hit hw0 hk11 hns) hP2 (fun _ => fr_line hFs) (Nat.lt_of_lt_of_le (rdS_dec hP hw0 hk11 hln2) (Nat.le_of_lt_succ hmu_77)) _ _ _ V (lv_sub hl [0, 1] rfl)
                      · have V : gW D T A s [(o, .inr (8, [.int (nI 0), .ref g1, .ref g2, .ref g3, .ref g4, .int (nI 0), .int (nI p2_40.1), .int (nI p2_40.2.1), .int (nI jn), .int (nI p2_40.2.2.1), .int p2_40.2.2.2.1, .int (nI p2_40.2.2.2.2.1), .int p2_40.2.2.2.2.2, .int w13, .int w14, .ref g15, .int w16, .ref g17, .int w18, .int w19, .ref g20, .int w21, .ref g22, .ref g23, .ref g24, .int w25, .int w26, .int w27, .ref g28, .ref g29, .int w30, .ref g31, .ref g32, .ref g33])), (g1, .inl (T 0, 282, .inl fa)), (g3, .inl (T 0, 900, .inl ft)), (g4, .inl (T 0, 94, .inl gf_41))] H locs := V _ [0, 1] rfl rfl rfl (by decide +kernel) rfl
                        show W p l e _ s m args below meth c H locs _ _ _ (F0 m 160 ls [.int (nI 0)])
                        refine lv_if_ne (tgt := 168) hx hb dX8_street_160 (by decide) (fun c => absurd (show (nI 0) = 0 by decide +kernel) c) (fun _ => ?_)
                        refine lv_aload_n hx hb dX8_street_163 rfl (lv_at hl 0 rfl) ?_
                        refine lv_iconst (v := (nI 2)) hx hb dX8_street_164 (by decide +kernel) ?_
                        refine g_callVU (nA := 1) hC V hl.1 (m_fails_f l D T p2_40 jn o 2 (nI 0) g1 g2 g3 g4 0 w13 w14 g15 w16 g17 w18 w19 g20 w21 g22 g23 g24 w25 w26 w27 g28 g29 w30 g31 g32 g33 (by first | assumption | omega) (by first | assumption | omega)) w_1055 w_1057 w_s41 w_9 w_1058 (by decide +kernel) rfl ⟨(Nat.le_of_ble_eq_true rfl), (Nat.le_of_ble_eq_true rfl)⟩ 0 (ci := 8) rfl rfl [0] rfl rfl (Nat.le_of_ble_eq_true rfl) dX8_street_165 ⟨(Nat.le_of_ble_eq_true rfl), (Nat.le_of_ble_eq_true rfl)⟩ rfl (fun r w1 H locs hQ V => ?_)
                        obtain ⟨p2_49, rfl, rfl, f_50⟩ := hQ
                        have V : gW D T A s [(o, .inr (8, [.int (nI 0), .ref g1, .ref g2, .ref g3, .ref g4, .int (nI 0), .int (nI p2_49.1), .int (nI p2_49.2.1), .int (nI jn), .int (nI p2_49.2.2.1), .int p2_49.2.2.2.1, .int (nI p2_49.2.2.2.2.1), .int p2_49.2.2.2.2.2, .int w13, .int w14, .ref g15, .int w16, .ref g17, .int w18, .int w19, .ref g20, .int w21, .ref g22, .ref g23, .ref g24, .int w25, .int w26, .int w27, .ref g28, .ref g29, .int w30, .ref g31, .ref g32, .ref g33])), (g1, .inl (T 0, 282, .inl fa)), (g3, .inl (T 0, 900, .inl ft)), (g4, .inl (T 0, 94, .inl gf_41))] H locs := V _ [0] rfl rfl rfl (by decide +kernel) rfl
                        show W p l e _ s m args below meth c H locs _ _ _ (F0 m 168 ls [])
                        have hP2 : PI ft jn p2_49 := by rw [f_50]; exact PI_fa hPl (by decide)
                        obtain ⟨_, _, _, _, -⟩ := id hP2
                        refine lv_aload_n hx hb dX8_street_168 rfl (lv_at hl 0 rfl) ?_
                        refine g_get hC V (ci := 8) uwX8 0 rfl rfl 4 (by decide) w_916 rfl rfl dX8_street_169 ?_
                        refine lv_iconst (v := (nI 3)) hx hb dX8_street_172 (by decide +kernel) ?_
                        refine lv_dup2_11 hx hb dX8_street_173 rfl rfl ?_
                        refine g_iald hC V 3 rfl (vp_in_nI (by decide) (by decide)) (v := (gf_41 3)) (congrArg _ (nI_clamp (by decide))) dX8_street_174 ?_
                        refine lv_iconst (v := (nI 1)) hx hb dX8_street_175 (by decide +kernel) ?_
                        refine lv_iadd hx hb dX8_street_176 ?_
                        refine g_iast hC V 3 rfl (vp_in_nI (by decide) (by decide)) (f' := (upd gf_41 3 ((gf_41 3) + (nI 1)))) (by rw [nI_clamp (by decide)]) (ws' := [(o, .inr (8, [.int (nI 0), .ref g1, .ref g2, .ref g3, .ref g4, .int (nI 0), .int (nI p2_49.1), .int (nI p2_49.2.1), .int (nI jn), .int (nI p2_49.2.2.1), .int p2_49.2.2.2.1, .int (nI p2_49.2.2.2.2.1), .int p2_49.2.2.2.2.2, .int w13, .int w14, .ref g15, .int w16, .ref g17, .int w18, .int w19, .ref g20, .int w21, .ref g22, .ref g23, .ref g24, .int w25, .int w26, .int w27, .ref g28, .ref g29, .int w30, .ref g31, .ref g32, .ref g33])), (g1, .inl (T 0, 282, .inl fa)), (g3, .inl (T 0, 900, .inl ft)), (g4, .inl (T 0, 94, .inl (upd gf_41 3 ((gf_41 3) + (nI 1)))))]) rfl dX8_street_177 (fun H locs V => ?_)
                        have hl1 : lnA ft jn (nq, pq, f77) = (nq, p2_40, gf_41) := (by rw [ln_bl (n := nq) (p := pq) (f := f77) f_38, ← f_36, ← f_42, ← f_43])
                        have hl2 : p2_49 = edS ft jn p2_40 := (f_50.trans (ed_n f_48).symm)
                        have hln2 : (nq, p2_49, upd gf_41 3 (gf_41 3 + nI 1)) = lnS ft jn (nq, pq, f77) := by unfold lnS; rw [hl1, ← hl2]
                        have hln : (nq, p2_49, upd gf_41 3 (gf_41 3 + nI 1)) = itS ft jn (0, nxS ft jn (0, 0, 0, w10, 0, w12), frI ff) (kq + 1) := by show _ = lnS ft jn (itS ft jn (0, nxS ft jn (0, 0, 0, w10, 0, w12), frI ff) kq); rw [← hit]; exact hln2
                        refine lv_goto (tgt := 77) hx hb dX8_street_178 (by decide) ?_
                        exact ih_77 (upd gf_41 3 ((gf_41 3) + (nI 1))) p2_49 nq (kq + 1) hln (no_stp hit hw0 hk11 hns) hP2 (fun _ => fr_line hFs) (Nat.lt_of_lt_of_le (rdS_dec hP hw0 hk11 hln2) (Nat.le_of_lt_succ hmu_77)) _ _ _ V (lv_sub hl [0, 1] rfl)
                    · have V : gW D T A s [(o, .inr (8, [.int (nI 0), .ref g1, .ref g2, .ref g3, .ref g4, .int (nI 0), .int (nI pq.1), .int (nI pq.2.1), .int (nI jn), .int (nI pq.2.2.1), .int pq.2.2.2.1, .int (nI pq.2.2.2.2.1), .int pq.2.2.2.2.2, .int w13, .int w14, .ref g15, .int w16, .ref g17, .int w18, .int w19, .ref g20, .int w21, .ref g22, .ref g23, .ref g24, .int w25, .int w26, .int w27, .ref g28, .ref g29, .int w30, .ref g31, .ref g32, .ref g33])), (g1, .inl (T 0, 282, .inl fa)), (g3, .inl (T 0, 900, .inl ft)), (g4, .inl (T 0, 94, .inl f77))] H locs := V _ [0, 1] rfl rfl rfl (by decide +kernel) rfl
                      show W p l e _ s m args below meth c H locs _ _ _ (F0 m 114 ls [.int (nI 0)])
                      refine lv_if_eq (tgt := 124) hx hb dX8_street_114 (by decide) (fun _ => ?_) (fun c => absurd (show (nI 0) = 0 by decide +kernel) c)
                      refine lv_aload_n hx hb dX8_street_124 rfl (lv_at hl 0 rfl) ?_
                      refine lv_bipush (v := (nI 7)) hx hb dX8_street_125 (by decide +kernel) ?_
                      refine g_callVU (nA := 1) hC V hl.1 (m_eats_f l D T pq o 7 (nI 0) g1 g2 g3 g4 0 jn w13 w14 g15 w16 g17 w18 w19 g20 w21 g22 g23 g24 w25 w26 w27 g28 g29 w30 g31 g32 g33 ft (by first | assumption | omega) (by first | assumption | omega) (by first | assumption | omega)) w_1067 w_1069 w_s44 w_9 w_1070 (by decide +kernel) rfl ⟨(Nat.le_of_ble_eq_true rfl), (Nat.le_of_ble_eq_true rfl)⟩ 0 (ci := 8) rfl rfl [0, 2] rfl rfl (Nat.le_of_ble_eq_true rfl) dX8_street_127 ⟨(Nat.le_of_ble_eq_true rfl), (Nat.le_of_ble_eq_true rfl)⟩ rfl (fun r w1 H locs hQ V => ?_)
                      rcases hQ with ⟨p2_51, rfl, rfl, f_52, f_53, f_54⟩ | ⟨rfl, rfl, f_55⟩
                      · have V : gW D T A s [(o, .inr (8, [.int (nI 0), .ref g1, .ref g2, .ref g3, .ref g4, .int (nI 0), .int (nI p2_51.1), .int (nI p2_51.2.1), .int (nI jn), .int (nI p2_51.2.2.1), .int p2_51.2.2.2.1, .int (nI p2_51.2.2.2.2.1), .int p2_51.2.2.2.2.2, .int w13, .int w14, .ref g15, .int w16, .ref g17, .int w18, .int w19, .ref g20, .int w21, .ref g22, .ref g23, .ref g24, .int w25, .int w26, .int w27, .ref g28, .ref g29, .int w30, .ref g31, .ref g32, .ref g33])), (g1, .inl (T 0, 282, .inl fa)), (g3, .inl (T 0, 900, .inl ft)), (g4, .inl (T 0, 94, .inl f77))] H locs := V _ [0, 1] rfl rfl rfl (by decide +kernel) rfl
                        show W p l e _ s m args below meth c H locs _ _ _ (F0 m 130 ls [.int (nI 1)])
                        have hPe : PI ft jn p2_51 := by rw [f_52]; exact PI_nxI hP
                        obtain ⟨_, _, _, _, -⟩ := id hPe
                        refine lv_if_eq (tgt := 149) hx hb dX8_street_130 (by decide) (fun c => absurd (show (nI 1) = 0 from c) (by decide +kernel)) (fun _ => ?_)
                        refine lv_aload_n hx hb dX8_street_133 rfl (lv_at hl 0 rfl) ?_
                        refine g_get hC V (ci := 8) uwX8 0 rfl rfl 4 (by decide) w_916 rfl rfl dX8_street_134 ?_
                        refine lv_iconst (v := (nI 2)) hx hb dX8_street_137 (by decide +kernel) ?_
                        refine lv_aload_n hx hb dX8_street_138 rfl (lv_at hl 0 rfl) ?_
                        refine lv_iconst (v := (nI 0)) hx hb dX8_street_139 (by decide +kernel) ?_
                        refine lv_bipush (v := (nI 20)) hx hb dX8_street_140 (by decide +kernel) ?_
                        refine g_callVU (nA := 2) hC V hl.1 (m_takes_f l D T p2_51 o (nI 0) (nI 20) (nI 0) g1 g2 g3 g4 0 jn w13 w14 g15 w16 g17 w18 w19 g20 w21 g22 g23 g24 w25 w26 w27 g28 g29 w30 g31 g32 g33 ft (by first | assumption | omega) (by first | assumption | omega)) w_1059 w_1061 w_s42 w_9 w_1062 (by decide +kernel) rfl ⟨(Nat.le_of_ble_eq_true rfl), (Nat.le_of_ble_eq_true rfl)⟩ 0 (ci := 8) rfl rfl [0, 2] rfl rfl (Nat.le_of_ble_eq_true rfl) dX8_street_142 ⟨(Nat.le_of_ble_eq_true rfl), (Nat.le_of_ble_eq_true rfl)⟩ rfl (fun r w1 H locs hQ V => ?_)
                        obtain ⟨p2_56, rfl, rfl, f_57⟩ := hQ
                        have V : gW D T A s [(o, .inr (8, [.int (nI 0), .ref g1, .ref g2, .ref g3, .ref g4, .int (nI 0), .int (nI p2_56.1), .int (nI p2_56.2.1), .int (nI jn), .int (nI p2_56.2.2.1), .int p2_56.2.2.2.1, .int (nI p2_56.2.2.2.2.1), .int p2_56.2.2.2.2.2, .int w13, .int w14, .ref g15, .int w16, .ref g17, .int w18, .int w19, .ref g20, .int w21, .ref g22, .ref g23, .ref g24, .int w25, .int w26, .int w27, .ref g28, .ref g29, .int w30, .ref g31, .ref g32, .ref g33])), (g1, .inl (T 0, 282, .inl fa)), (g3, .inl (T 0, 900, .inl ft)), (g4, .inl (T 0, 94, .inl f77))] H locs := V _ [0, 1] rfl rfl rfl (by decide +kernel) rfl
                        show W p l e _ s m args below meth c H locs _ _ _ (F0 m 145 ls [.int p2_51.2.2.2.1, .int (nI 2), .ref g4])
                        have hPl : PI ft jn p2_56 := by rw [f_57]; exact PI_tk hPe
                        obtain ⟨_, _, _, _, -⟩ := id hPl
                        refine g_iast hC V 3 rfl (vp_in_nI (by decide) (by decide)) (f' := (upd f77 2 p2_51.2.2.2.1)) (by rw [nI_clamp (by decide)]) (ws' := [(o, .inr (8, [.int (nI 0), .ref g1, .ref g2, .ref g3, .ref g4, .int (nI 0), .int (nI p2_56.1), .int (nI p2_56.2.1), .int (nI jn), .int (nI p2_56.2.2.1), .int p2_56.2.2.2.1, .int (nI p2_56.2.2.2.2.1), .int p2_56.2.2.2.2.2, .int w13, .int w14, .ref g15, .int w16, .ref g17, .int w18, .int w19, .ref g20, .int w21, .ref g22, .ref g23, .ref g24, .int w25, .int w26, .int w27, .ref g28, .ref g29, .int w30, .ref g31, .ref g32, .ref g33])), (g1, .inl (T 0, 282, .inl fa)), (g3, .inl (T 0, 900, .inl ft)), (g4, .inl (T 0, 94, .inl (upd f77 2 p2_51.2.2.2.1)))]) rfl dX8_street_145 (fun H locs V => ?_)
                        refine lv_goto (tgt := 154) hx hb dX8_street_146 (by decide) ?_
                        refine lv_aload_n hx hb dX8_street_154 rfl (lv_at hl 0 rfl) ?_
                        refine lv_bipush (v := (nI 10)) hx hb dX8_street_155 (by decide +kernel) ?_
                        refine g_callVU (nA := 1) hC V hl.1 (m_eats_f l D T p2_56 o 10 (nI 0) g1 g2 g3 g4 0 jn w13 w14 g15 w16 g17 w18 w19 g20 w21 g22 g23 g24 w25 w26 w27 g28 g29 w30 g31 g32 g33 ft (by first | assumption | omega) (by first | assumption | omega) (by first | assumption | omega)) w_1067 w_1069 w_s44 w_9 w_1070 (by decide +kernel) rfl ⟨(Nat.le_of_ble_eq_true rfl), (Nat.le_of_ble_eq_true rfl)⟩ 0 (ci := 8) rfl rfl [0, 2] rfl rfl (Nat.le_of_ble_eq_true rfl) dX8_street_157 ⟨(Nat.le_of_ble_eq_true rfl), (Nat.le_of_ble_eq_true rfl)⟩ rfl (fun r w1 H locs hQ V => ?_)
                        rcases hQ with ⟨p2_58, rfl, rfl, f_59, f_60, f_61⟩ | ⟨rfl, rfl, f_62⟩
                        · have V : gW D T A s [(o, .inr (8, [.int (nI 0), .ref g1, .ref g2, .ref g3, .ref g4, .int (nI 0), .int (nI p2_58.1), .int (nI p2_58.2.1), .int (nI jn), .int (nI p2_58.2.2.1), .int p2_58.2.2.2.1, .int (nI p2_58.2.2.2.2.1), .int p2_58.2.2.2.2.2, .int w13, .int w14, .ref g15, .int w16, .ref g17, .int w18, .int w19, .ref g20, .int w21, .ref g22, .ref g23, .ref g24, .int w25, .int w26, .int w27, .ref g28, .ref g29, .int w30, .ref g31, .ref g32, .ref g33])), (g1, .inl (T 0, 282, .inl fa)), (g3, .inl (T 0, 900, .inl ft)), (g4, .inl (T 0, 94, .inl (upd f77 2 p2_51.2.2.2.1)))] H locs := V _ [0, 1] rfl rfl rfl (by decide +kernel) rfl
                          show W p l e _ s m args below meth c H locs _ _ _ (F0 m 160 ls [.int (nI 1)])
                          have hP2 : PI ft jn p2_58 := by rw [f_59]; exact PI_nxI hPl
                          obtain ⟨_, _, _, _, -⟩ := id hP2
                          refine lv_if_ne (tgt := 168) hx hb dX8_street_160 (by decide) (fun _ => ?_) (fun c => absurd (show (nI 1) = 0 from c) (by decide +kernel))
                          refine lv_aload_n hx hb dX8_street_168 rfl (lv_at hl 0 rfl) ?_
                          refine g_get hC V (ci := 8) uwX8 0 rfl rfl 4 (by decide) w_916 rfl rfl dX8_street_169 ?_
                          refine lv_iconst (v := (nI 3)) hx hb dX8_street_172 (by decide +kernel) ?_
                          refine lv_dup2_11 hx hb dX8_street_173 rfl rfl ?_
                          refine g_iald hC V 3 rfl (vp_in_nI (by decide) (by decide)) (v := ((upd f77 2 p2_51.2.2.2.1) 3)) (congrArg _ (nI_clamp (by decide))) dX8_street_174 ?_
                          refine lv_iconst (v := (nI 1)) hx hb dX8_street_175 (by decide +kernel) ?_
                          refine lv_iadd hx hb dX8_street_176 ?_
                          refine g_iast hC V 3 rfl (vp_in_nI (by decide) (by decide)) (f' := (upd (upd f77 2 p2_51.2.2.2.1) 3 (((upd f77 2 p2_51.2.2.2.1) 3) + (nI 1)))) (by rw [nI_clamp (by decide)]) (ws' := [(o, .inr (8, [.int (nI 0), .ref g1, .ref g2, .ref g3, .ref g4, .int (nI 0), .int (nI p2_58.1), .int (nI p2_58.2.1), .int (nI jn), .int (nI p2_58.2.2.1), .int p2_58.2.2.2.1, .int (nI p2_58.2.2.2.2.1), .int p2_58.2.2.2.2.2, .int w13, .int w14, .ref g15, .int w16, .ref g17, .int w18, .int w19, .ref g20, .int w21, .ref g22, .ref g23, .ref g24, .int w25, .int w26, .int w27, .ref g28, .ref g29, .int w30, .ref g31, .ref g32, .ref g33])), (g1, .inl (T 0, 282, .inl fa)), (g3, .inl (T 0, 900, .inl ft)), (g4, .inl (T 0, 94, .inl (upd (upd f77 2 p2_51.2.2.2.1) 3 (((upd f77 2 p2_51.2.2.2.1) 3) + (nI 1)))))]) rfl dX8_street_177 (fun H locs V => ?_)
                          have hl1 : lnA ft jn (nq, pq, f77) = (nq, p2_56, (upd f77 2 p2_51.2.2.2.1)) := (by rw [ln_bu (n := nq) (p := pq) (f := f77) f_54, ← f_52, ← f_57])
                          have hl2 : p2_58 = edS ft jn p2_56 := (f_59.trans (ed_y f_60 f_61).symm)
                          have hln2 : (nq, p2_58, upd (upd f77 2 p2_51.2.2.2.1) 3 ((upd f77 2 p2_51.2.2.2.1) 3 + nI 1)) = lnS ft jn (nq, pq, f77) := by unfold lnS; rw [hl1, ← hl2]
                          have hln : (nq, p2_58, upd (upd f77 2 p2_51.2.2.2.1) 3 ((upd f77 2 p2_51.2.2.2.1) 3 + nI 1)) = itS ft jn (0, nxS ft jn (0, 0, 0, w10, 0, w12), frI ff) (kq + 1) := by show _ = lnS ft jn (itS ft jn (0, nxS ft jn (0, 0, 0, w10, 0, w12), frI ff) kq); rw [← hit]; exact hln2
                          refine lv_goto (tgt := 77) hx hb dX8_street_178 (by decide) ?_
                          exact ih_77 (upd (upd f77 2 p2_51.2.2.2.1) 3 (((upd f77 2 p2_51.2.2.2.1) 3) + (nI 1))) p2_58 nq (kq + 1) hln (no_stp hit hw0 hk11 hns) hP2 (fun h => fr_line (fr_lost hF (bu_bd hl2 f_57 h))) (Nat.lt_of_lt_of_le (rdS_dec hP hw0 hk11 hln2) (Nat.le_of_lt_succ hmu_77)) _ _ _ V (lv_sub hl [0, 1] rfl)
                        · have V : gW D T A s [(o, .inr (8, [.int (nI 0), .ref g1, .ref g2, .ref g3, .ref g4, .int (nI 0), .int (nI p2_56.1), .int (nI p2_56.2.1), .int (nI jn), .int (nI p2_56.2.2.1), .int p2_56.2.2.2.1, .int (nI p2_56.2.2.2.2.1), .int p2_56.2.2.2.2.2, .int w13, .int w14, .ref g15, .int w16, .ref g17, .int w18, .int w19, .ref g20, .int w21, .ref g22, .ref g23, .ref g24, .int w25, .int w26, .int w27, .ref g28, .ref g29, .int w30, .ref g31, .ref g32, .ref g33])), (g1, .inl (T 0, 282, .inl fa)), (g3, .inl (T 0, 900, .inl ft)), (g4, .inl (T 0, 94, .inl (upd f77 2 p2_51.2.2.2.1)))] H locs := V _ [0, 1] rfl rfl rfl (by decide +kernel) rfl
                          show W p l e _ s m args below meth c H locs _ _ _ (F0 m 160 ls [.int (nI 0)])
                          refine lv_if_ne (tgt := 168) hx hb dX8_street_160 (by decide) (fun c => absurd (show (nI 0) = 0 by decide +kernel) c) (fun _ => ?_)
                          refine lv_aload_n hx hb dX8_street_163 rfl (lv_at hl 0 rfl) ?_
                          refine lv_iconst (v := (nI 2)) hx hb dX8_street_164 (by decide +kernel) ?_
                          refine g_callVU (nA := 1) hC V hl.1 (m_fails_f l D T p2_56 jn o 2 (nI 0) g1 g2 g3 g4 0 w13 w14 g15 w16 g17 w18 w19 g20 w21 g22 g23 g24 w25 w26 w27 g28 g29 w30 g31 g32 g33 (by first | assumption | omega) (by first | assumption | omega)) w_1055 w_1057 w_s41 w_9 w_1058 (by decide +kernel) rfl ⟨(Nat.le_of_ble_eq_true rfl), (Nat.le_of_ble_eq_true rfl)⟩ 0 (ci := 8) rfl rfl [0] rfl rfl (Nat.le_of_ble_eq_true rfl) dX8_street_165 ⟨(Nat.le_of_ble_eq_true rfl), (Nat.le_of_ble_eq_true rfl)⟩ rfl (fun r w1 H locs hQ V => ?_)
                          obtain ⟨p2_63, rfl, rfl, f_64⟩ := hQ
                          have V : gW D T A s [(o, .inr (8, [.int (nI 0), .ref g1, .ref g2, .ref g3, .ref g4, .int (nI 0), .int (nI p2_63.1), .int (nI p2_63.2.1), .int (nI jn), .int (nI p2_63.2.2.1), .int p2_63.2.2.2.1, .int (nI p2_63.2.2.2.2.1), .int p2_63.2.2.2.2.2, .int w13, .int w14, .ref g15, .int w16, .ref g17, .int w18, .int w19, .ref g20, .int w21, .ref g22, .ref g23, .ref g24, .int w25, .int w26, .int w27, .ref g28, .ref g29, .int w30, .ref g31, .ref g32, .ref g33])), (g1, .inl (T 0, 282, .inl fa)), (g3, .inl (T 0, 900, .inl ft)), (g4, .inl (T 0, 94, .inl (upd f77 2 p2_51.2.2.2.1)))] H locs := V _ [0] rfl rfl rfl (by decide +kernel) rfl
                          show W p l e _ s m args below meth c H locs _ _ _ (F0 m 168 ls [])
                          have hP2 : PI ft jn p2_63 := by rw [f_64]; exact PI_fa hPl (by decide)
                          obtain ⟨_, _, _, _, -⟩ := id hP2
                          refine lv_aload_n hx hb dX8_street_168 rfl (lv_at hl 0 rfl) ?_
                          refine g_get hC V (ci := 8) uwX8 0 rfl rfl 4 (by decide) w_916 rfl rfl dX8_street_169 ?_
                          refine lv_iconst (v := (nI 3)) hx hb dX8_street_172 (by decide +kernel) ?_
                          refine lv_dup2_11 hx hb dX8_street_173 rfl rfl ?_
                          refine g_iald hC V 3 rfl (vp_in_nI (by decide) (by decide)) (v := ((upd f77 2 p2_51.2.2.2.1) 3)) (congrArg _ (nI_clamp (by decide))) dX8_street_174 ?_
                          refine lv_iconst (v := (nI 1)) hx hb dX8_street_175 (by decide +kernel) ?_
                          refine lv_iadd hx hb dX8_street_176 ?_
                          refine g_iast hC V 3 rfl (vp_in_nI (by decide) (by decide)) (f' := (upd (upd f77 2 p2_51.2.2.2.1) 3 (((upd f77 2 p2_51.2.2.2.1) 3) + (nI 1)))) (by rw [nI_clamp (by decide)]) (ws' := [(o, .inr (8, [.int (nI 0), .ref g1, .ref g2, .ref g3, .ref g4, .int (nI 0), .int (nI p2_63.1), .int (nI p2_63.2.1), .int (nI jn), .int (nI p2_63.2.2.1), .int p2_63.2.2.2.1, .int (nI p2_63.2.2.2.2.1), .int p2_63.2.2.2.2.2, .int w13, .int w14, .ref g15, .int w16, .ref g17, .int w18, .int w19, .ref g20, .int w21, .ref g22, .ref g23, .ref g24, .int w25, .int w26, .int w27, .ref g28, .ref g29, .int w30, .ref g31, .ref g32, .ref g33])), (g1, .inl (T 0, 282, .inl fa)), (g3, .inl (T 0, 900, .inl ft)), (g4, .inl (T 0, 94, .inl (upd (upd f77 2 p2_51.2.2.2.1) 3 (((upd f77 2 p2_51.2.2.2.1) 3) + (nI 1)))))]) rfl dX8_street_177 (fun H locs V => ?_)
                          have hl1 : lnA ft jn (nq, pq, f77) = (nq, p2_56, (upd f77 2 p2_51.2.2.2.1)) := (by rw [ln_bu (n := nq) (p := pq) (f := f77) f_54, ← f_52, ← f_57])
                          have hl2 : p2_63 = edS ft jn p2_56 := (f_64.trans (ed_n f_62).symm)
                          have hln2 : (nq, p2_63, upd (upd f77 2 p2_51.2.2.2.1) 3 ((upd f77 2 p2_51.2.2.2.1) 3 + nI 1)) = lnS ft jn (nq, pq, f77) := by unfold lnS; rw [hl1, ← hl2]
                          have hln : (nq, p2_63, upd (upd f77 2 p2_51.2.2.2.1) 3 ((upd f77 2 p2_51.2.2.2.1) 3 + nI 1)) = itS ft jn (0, nxS ft jn (0, 0, 0, w10, 0, w12), frI ff) (kq + 1) := by show _ = lnS ft jn (itS ft jn (0, nxS ft jn (0, 0, 0, w10, 0, w12), frI ff) kq); rw [← hit]; exact hln2
                          refine lv_goto (tgt := 77) hx hb dX8_street_178 (by decide) ?_
                          exact ih_77 (upd (upd f77 2 p2_51.2.2.2.1) 3 (((upd f77 2 p2_51.2.2.2.1) 3) + (nI 1))) p2_63 nq (kq + 1) hln (no_stp hit hw0 hk11 hns) hP2 (fun h => fr_line (fr_lost hF (bu_bd hl2 f_57 h))) (Nat.lt_of_lt_of_le (rdS_dec hP hw0 hk11 hln2) (Nat.le_of_lt_succ hmu_77)) _ _ _ V (lv_sub hl [0, 1] rfl)
                      · have V : gW D T A s [(o, .inr (8, [.int (nI 0), .ref g1, .ref g2, .ref g3, .ref g4, .int (nI 0), .int (nI pq.1), .int (nI pq.2.1), .int (nI jn), .int (nI pq.2.2.1), .int pq.2.2.2.1, .int (nI pq.2.2.2.2.1), .int pq.2.2.2.2.2, .int w13, .int w14, .ref g15, .int w16, .ref g17, .int w18, .int w19, .ref g20, .int w21, .ref g22, .ref g23, .ref g24, .int w25, .int w26, .int w27, .ref g28, .ref g29, .int w30, .ref g31, .ref g32, .ref g33])), (g1, .inl (T 0, 282, .inl fa)), (g3, .inl (T 0, 900, .inl ft)), (g4, .inl (T 0, 94, .inl f77))] H locs := V _ [0, 1] rfl rfl rfl (by decide +kernel) rfl
                        show W p l e _ s m args below meth c H locs _ _ _ (F0 m 130 ls [.int (nI 0)])
                        refine lv_if_eq (tgt := 149) hx hb dX8_street_130 (by decide) (fun _ => ?_) (fun c => absurd (show (nI 0) = 0 by decide +kernel) c)
                        refine lv_aload_n hx hb dX8_street_149 rfl (lv_at hl 0 rfl) ?_
                        refine lv_iconst (v := (nI 2)) hx hb dX8_street_150 (by decide +kernel) ?_
                        refine g_callVU (nA := 1) hC V hl.1 (m_fails_f l D T pq jn o 2 (nI 0) g1 g2 g3 g4 0 w13 w14 g15 w16 g17 w18 w19 g20 w21 g22 g23 g24 w25 w26 w27 g28 g29 w30 g31 g32 g33 (by first | assumption | omega) (by first | assumption | omega)) w_1055 w_1057 w_s41 w_9 w_1058 (by decide +kernel) rfl ⟨(Nat.le_of_ble_eq_true rfl), (Nat.le_of_ble_eq_true rfl)⟩ 0 (ci := 8) rfl rfl [0] rfl rfl (Nat.le_of_ble_eq_true rfl) dX8_street_151 ⟨(Nat.le_of_ble_eq_true rfl), (Nat.le_of_ble_eq_true rfl)⟩ rfl (fun r w1 H locs hQ V => ?_)
                        obtain ⟨p2_65, rfl, rfl, f_66⟩ := hQ
                        have V : gW D T A s [(o, .inr (8, [.int (nI 0), .ref g1, .ref g2, .ref g3, .ref g4, .int (nI 0), .int (nI p2_65.1), .int (nI p2_65.2.1), .int (nI jn), .int (nI p2_65.2.2.1), .int p2_65.2.2.2.1, .int (nI p2_65.2.2.2.2.1), .int p2_65.2.2.2.2.2, .int w13, .int w14, .ref g15, .int w16, .ref g17, .int w18, .int w19, .ref g20, .int w21, .ref g22, .ref g23, .ref g24, .int w25, .int w26, .int w27, .ref g28, .ref g29, .int w30, .ref g31, .ref g32, .ref g33])), (g1, .inl (T 0, 282, .inl fa)), (g3, .inl (T 0, 900, .inl ft)), (g4, .inl (T 0, 94, .inl f77))] H locs := V _ [0] rfl rfl rfl (by decide +kernel) rfl
                        show W p l e _ s m args below meth c H locs _ _ _ (F0 m 154 ls [])
                        have hPl : PI ft jn p2_65 := by rw [f_66]; exact PI_fa hP (by decide)
                        obtain ⟨_, _, _, _, -⟩ := id hPl
                        refine lv_aload_n hx hb dX8_street_154 rfl (lv_at hl 0 rfl) ?_
                        refine lv_bipush (v := (nI 10)) hx hb dX8_street_155 (by decide +kernel) ?_
                        refine g_callVU (nA := 1) hC V hl.1 (m_eats_f l D T p2_65 o 10 (nI 0) g1 g2 g3 g4 0 jn w13 w14 g15 w16 g17 w18 w19 g20 w21 g22 g23 g24 w25 w26 w27 g28 g29 w30 g31 g32 g33 ft (by first | assumption | omega) (by first | assumption | omega) (by first | assumption | omega)) w_1067 w_1069 w_s44 w_9 w_1070 (by decide +kernel) rfl ⟨(Nat.le_of_ble_eq_true rfl), (Nat.le_of_ble_eq_true rfl)⟩ 0 (ci := 8) rfl rfl [0, 2] rfl rfl (Nat.le_of_ble_eq_true rfl) dX8_street_157 ⟨(Nat.le_of_ble_eq_true rfl), (Nat.le_of_ble_eq_true rfl)⟩ rfl (fun r w1 H locs hQ V => ?_)
                        rcases hQ with ⟨p2_67, rfl, rfl, f_68, f_69, f_70⟩ | ⟨rfl, rfl, f_71⟩
                        · have V : gW D T A s [(o, .inr (8, [.int (nI 0), .ref g1, .ref g2, .ref g3, .ref g4, .int (nI 0), .int (nI p2_67.1), .int (nI p2_67.2.1), .int (nI jn), .int (nI p2_67.2.2.1), .int p2_67.2.2.2.1, .int (nI p2_67.2.2.2.2.1), .int p2_67.2.2.2.2.2, .int w13, .int w14, .ref g15, .int w16, .ref g17, .int w18, .int w19, .ref g20, .int w21, .ref g22, .ref g23, .ref g24, .int w25, .int w26, .int w27, .ref g28, .ref g29, .int w30, .ref g31, .ref g32, .ref g33])), (g1, .inl (T 0, 282, .inl fa)), (g3, .inl (T 0, 900, .inl ft)), (g4, .inl (T 0, 94, .inl f77))] H locs := V _ [0, 1] rfl rfl rfl (by decide +kernel) rfl
                          show W p l e _ s m args below meth c H locs _ _ _ (F0 m 160 ls [.int (nI 1)])
                          have hP2 : PI ft jn p2_67 := by rw [f_68]; exact PI_nxI hPl
                          obtain ⟨_, _, _, _, -⟩ := id hP2
                          refine lv_if_ne (tgt := 168) hx hb dX8_street_160 (by decide) (fun _ => ?_) (fun c => absurd (show (nI 1) = 0 from c) (by decide +kernel))
                          refine lv_aload_n hx hb dX8_street_168 rfl (lv_at hl 0 rfl) ?_
                          refine g_get hC V (ci := 8) uwX8 0 rfl rfl 4 (by decide) w_916 rfl rfl dX8_street_169 ?_
                          refine lv_iconst (v := (nI 3)) hx hb dX8_street_172 (by decide +kernel) ?_
                          refine lv_dup2_11 hx hb dX8_street_173 rfl rfl ?_
                          refine g_iald hC V 3 rfl (vp_in_nI (by decide) (by decide)) (v := (f77 3)) (congrArg _ (nI_clamp (by decide))) dX8_street_174 ?_
                          refine lv_iconst (v := (nI 1)) hx hb dX8_street_175 (by decide +kernel) ?_
                          refine lv_iadd hx hb dX8_street_176 ?_
                          refine g_iast hC V 3 rfl (vp_in_nI (by decide) (by decide)) (f' := (upd f77 3 ((f77 3) + (nI 1)))) (by rw [nI_clamp (by decide)]) (ws' := [(o, .inr (8, [.int (nI 0), .ref g1, .ref g2, .ref g3, .ref g4, .int (nI 0), .int (nI p2_67.1), .int (nI p2_67.2.1), .int (nI jn), .int (nI p2_67.2.2.1), .int p2_67.2.2.2.1, .int (nI p2_67.2.2.2.2.1), .int p2_67.2.2.2.2.2, .int w13, .int w14, .ref g15, .int w16, .ref g17, .int w18, .int w19, .ref g20, .int w21, .ref g22, .ref g23, .ref g24, .int w25, .int w26, .int w27, .ref g28, .ref g29, .int w30, .ref g31, .ref g32, .ref g33])), (g1, .inl (T 0, 282, .inl fa)), (g3, .inl (T 0, 900, .inl ft)), (g4, .inl (T 0, 94, .inl (upd f77 3 ((f77 3) + (nI 1)))))]) rfl dX8_street_177 (fun H locs V => ?_)
                          have hl1 : lnA ft jn (nq, pq, f77) = (nq, p2_65, f77) := (by rw [ln_no (n := nq) (p := pq) (f := f77) (by omega) (by omega) (by omega), ← f_66])
                          have hl2 : p2_67 = edS ft jn p2_65 := (f_68.trans (ed_y f_69 f_70).symm)
                          have hln2 : (nq, p2_67, upd f77 3 (f77 3 + nI 1)) = lnS ft jn (nq, pq, f77) := by unfold lnS; rw [hl1, ← hl2]
                          have hln : (nq, p2_67, upd f77 3 (f77 3 + nI 1)) = itS ft jn (0, nxS ft jn (0, 0, 0, w10, 0, w12), frI ff) (kq + 1) := by show _ = lnS ft jn (itS ft jn (0, nxS ft jn (0, 0, 0, w10, 0, w12), frI ff) kq); rw [← hit]; exact hln2
                          refine lv_goto (tgt := 77) hx hb dX8_street_178 (by decide) ?_
                          exact ih_77 (upd f77 3 ((f77 3) + (nI 1))) p2_67 nq (kq + 1) hln (no_stp hit hw0 hk11 hns) hP2 (fun h => absurd h (fl_w hl2 f_66)) (Nat.lt_of_lt_of_le (rdS_dec hP hw0 hk11 hln2) (Nat.le_of_lt_succ hmu_77)) _ _ _ V (lv_sub hl [0, 1] rfl)
                        · have V : gW D T A s [(o, .inr (8, [.int (nI 0), .ref g1, .ref g2, .ref g3, .ref g4, .int (nI 0), .int (nI p2_65.1), .int (nI p2_65.2.1), .int (nI jn), .int (nI p2_65.2.2.1), .int p2_65.2.2.2.1, .int (nI p2_65.2.2.2.2.1), .int p2_65.2.2.2.2.2, .int w13, .int w14, .ref g15, .int w16, .ref g17, .int w18, .int w19, .ref g20, .int w21, .ref g22, .ref g23, .ref g24, .int w25, .int w26, .int w27, .ref g28, .ref g29, .int w30, .ref g31, .ref g32, .ref g33])), (g1, .inl (T 0, 282, .inl fa)), (g3, .inl (T 0, 900, .inl ft)), (g4, .inl (T 0, 94, .inl f77))] H locs := V _ [0, 1] rfl rfl rfl (by decide +kernel) rfl
                          show W p l e _ s m args below meth c H locs _ _ _ (F0 m 160 ls [.int (nI 0)])
                          refine lv_if_ne (tgt := 168) hx hb dX8_street_160 (by decide) (fun c => absurd (show (nI 0) = 0 by decide +kernel) c) (fun _ => ?_)
                          refine lv_aload_n hx hb dX8_street_163 rfl (lv_at hl 0 rfl) ?_
                          refine lv_iconst (v := (nI 2)) hx hb dX8_street_164 (by decide +kernel) ?_
                          refine g_callVU (nA := 1) hC V hl.1 (m_fails_f l D T p2_65 jn o 2 (nI 0) g1 g2 g3 g4 0 w13 w14 g15 w16 g17 w18 w19 g20 w21 g22 g23 g24 w25 w26 w27 g28 g29 w30 g31 g32 g33 (by first | assumption | omega) (by first | assumption | omega)) w_1055 w_1057 w_s41 w_9 w_1058 (by decide +kernel) rfl ⟨(Nat.le_of_ble_eq_true rfl), (Nat.le_of_ble_eq_true rfl)⟩ 0 (ci := 8) rfl rfl [0] rfl rfl (Nat.le_of_ble_eq_true rfl) dX8_street_165 ⟨(Nat.le_of_ble_eq_true rfl), (Nat.le_of_ble_eq_true rfl)⟩ rfl (fun r w1 H locs hQ V => ?_)
                          obtain ⟨p2_72, rfl, rfl, f_73⟩ := hQ
                          have V : gW D T A s [(o, .inr (8, [.int (nI 0), .ref g1, .ref g2, .ref g3, .ref g4, .int (nI 0), .int (nI p2_72.1), .int (nI p2_72.2.1), .int (nI jn), .int (nI p2_72.2.2.1), .int p2_72.2.2.2.1, .int (nI p2_72.2.2.2.2.1), .int p2_72.2.2.2.2.2, .int w13, .int w14, .ref g15, .int w16, .ref g17, .int w18, .int w19, .ref g20, .int w21, .ref g22, .ref g23, .ref g24, .int w25, .int w26, .int w27, .ref g28, .ref g29, .int w30, .ref g31, .ref g32, .ref g33])), (g1, .inl (T 0, 282, .inl fa)), (g3, .inl (T 0, 900, .inl ft)), (g4, .inl (T 0, 94, .inl f77))] H locs := V _ [0] rfl rfl rfl (by decide +kernel) rfl
                          show W p l e _ s m args below meth c H locs _ _ _ (F0 m 168 ls [])
                          have hP2 : PI ft jn p2_72 := by rw [f_73]; exact PI_fa hPl (by decide)
                          obtain ⟨_, _, _, _, -⟩ := id hP2
                          refine lv_aload_n hx hb dX8_street_168 rfl (lv_at hl 0 rfl) ?_
                          refine g_get hC V (ci := 8) uwX8 0 rfl rfl 4 (by decide) w_916 rfl rfl dX8_street_169 ?_
                          refine lv_iconst (v := (nI 3)) hx hb dX8_street_172 (by decide +kernel) ?_
                          refine lv_dup2_11 hx hb dX8_street_173 rfl rfl ?_
                          refine g_iald hC V 3 rfl (vp_in_nI (by decide) (by decide)) (v := (f77 3)) (congrArg _ (nI_clamp (by decide))) dX8_street_174 ?_
                          refine lv_iconst (v := (nI 1)) hx hb dX8_street_175 (by decide +kernel) ?_
                          refine lv_iadd hx hb dX8_street_176 ?_
                          refine g_iast hC V 3 rfl (vp_in_nI (by decide) (by decide)) (f' := (upd f77 3 ((f77 3) + (nI 1)))) (by rw [nI_clamp (by decide)]) (ws' := [(o, .inr (8, [.int (nI 0), .ref g1, .ref g2, .ref g3, .ref g4, .int (nI 0), .int (nI p2_72.1), .int (nI p2_72.2.1), .int (nI jn), .int (nI p2_72.2.2.1), .int p2_72.2.2.2.1, .int (nI p2_72.2.2.2.2.1), .int p2_72.2.2.2.2.2, .int w13, .int w14, .ref g15, .int w16, .ref g17, .int w18, .int w19, .ref g20, .int w21, .ref g22, .ref g23, .ref g24, .int w25, .int w26, .int w27, .ref g28, .ref g29, .int w30, .ref g31, .ref g32, .ref g33])), (g1, .inl (T 0, 282, .inl fa)), (g3, .inl (T 0, 900, .inl ft)), (g4, .inl (T 0, 94, .inl (upd f77 3 ((f77 3) + (nI 1)))))]) rfl dX8_street_177 (fun H locs V => ?_)
                          have hl1 : lnA ft jn (nq, pq, f77) = (nq, p2_65, f77) := (by rw [ln_no (n := nq) (p := pq) (f := f77) (by omega) (by omega) (by omega), ← f_66])
                          have hl2 : p2_72 = edS ft jn p2_65 := (f_73.trans (ed_n f_71).symm)
                          have hln2 : (nq, p2_72, upd f77 3 (f77 3 + nI 1)) = lnS ft jn (nq, pq, f77) := by unfold lnS; rw [hl1, ← hl2]
                          have hln : (nq, p2_72, upd f77 3 (f77 3 + nI 1)) = itS ft jn (0, nxS ft jn (0, 0, 0, w10, 0, w12), frI ff) (kq + 1) := by show _ = lnS ft jn (itS ft jn (0, nxS ft jn (0, 0, 0, w10, 0, w12), frI ff) kq); rw [← hit]; exact hln2
                          refine lv_goto (tgt := 77) hx hb dX8_street_178 (by decide) ?_
                          exact ih_77 (upd f77 3 ((f77 3) + (nI 1))) p2_72 nq (kq + 1) hln (no_stp hit hw0 hk11 hns) hP2 (fun h => absurd h (fl_w hl2 f_66)) (Nat.lt_of_lt_of_le (rdS_dec hP hw0 hk11 hln2) (Nat.le_of_lt_succ hmu_77)) _ _ _ V (lv_sub hl [0, 1] rfl)
          exact L_8 _ f44 p2_6 0 0 hi0 (fun i h => absurd h (Nat.not_lt_zero _)) hP0 (fun _ => by rw [ef0]; exact fr_frI ff) (Nat.lt_succ_self _) _ _ _ V (lv_sub hl [1, 2] rfl)
        · skip
          have c_5 := b_nle (by omega) (by omega) c_5
          refine lv_aload_n hx hb dX8_street_50 rfl (lv_at hl 1 rfl) ?_
          refine g_get hC V (ci := 8) uwX8 0 rfl rfl 4 (by decide) w_916 rfl rfl dX8_street_51 ?_
          refine lv_iload_n hx hb dX8_street_54 rfl (lv_at hl 0 rfl) ?_
          refine lv_iload_n hx hb dX8_street_55 rfl (lv_at hl 0 rfl) ?_
          refine lv_iconst (v := (nI 2)) hx hb dX8_street_56 (by decide +kernel) ?_
          refine lv_icmp_ne (tgt := 65) hx hb dX8_street_57 (by decide) (fun c_74 => ?_) (fun c_74 => ?_)
          · skip
            have c_74 := b_ne (by omega) (by omega) c_74
            refine lv_iconst (v := (nI 0)) hx hb dX8_street_65 (by decide +kernel) ?_
            refine g_iast hC V 3 rfl (vp_in_nI (by omega) (by omega)) (f' := (upd f44 k44 (nI 0))) (by rw [nI_clamp (by omega)]) (ws' := [(o, .inr (8, [.int (nI 0), .ref g1, .ref g2, .ref g3, .ref g4, .int (nI 0), .int w6, .int (nI 0), .int (nI jn), .int w9, .int w10, .int (nI 0), .int w12, .int w13, .int w14, .ref g15, .int w16, .ref g17, .int w18, .int w19, .ref g20, .int w21, .ref g22, .ref g23, .ref g24, .int w25, .int w26, .int w27, .ref g28, .ref g29, .int w30, .ref g31, .ref g32, .ref g33])), (g1, .inl (T 0, 282, .inl fa)), (g3, .inl (T 0, 900, .inl ft)), (g4, .inl (T 0, 94, .inl (upd f44 k44 (nI 0))))]) rfl dX8_street_66 (fun H locs V => ?_)
            refine lv_iinc (v := (nI (k44 + 1))) (lv' := [(2, .int (nI (k44 + 1))), (0, .ref o), (1, .int (nI jn))]) hx hb dX8_street_67 hl (k := 0) rfl (nI_1 _) (by decide) rfl (fun ls hl => ?_)
            refine lv_goto (tgt := 44) hx hb dX8_street_70 (by decide) ?_
            exact ih_44 (k44 + 1) (upd f44 k44 (nI 0)) (by omega) (up_one (p := fun j y => y = if j = 2 then nI 20 else nI 0) hf44 (by first | (rw [if_pos (by omega)]; done) | (rw [if_neg (by omega)]; done))) (fun j hj => (up_other (by omega)).trans (hf44b j hj)) (by omega) _ _ _ V (lv_sub hl [0, 1, 2] rfl)
          · skip
            have c_74 := b_eq (by omega) (by omega) c_74
            refine lv_bipush (v := (nI 20)) hx hb dX8_street_60 (by decide +kernel) ?_
            refine lv_goto (tgt := 66) hx hb dX8_street_62 (by decide) ?_
            refine g_iast hC V 3 rfl (vp_in_nI (by omega) (by omega)) (f' := (upd f44 k44 (nI 20))) (by rw [nI_clamp (by omega)]) (ws' := [(o, .inr (8, [.int (nI 0), .ref g1, .ref g2, .ref g3, .ref g4, .int (nI 0), .int w6, .int (nI 0), .int (nI jn), .int w9, .int w10, .int (nI 0), .int w12, .int w13, .int w14, .ref g15, .int w16, .ref g17, .int w18, .int w19, .ref g20, .int w21, .ref g22, .ref g23, .ref g24, .int w25, .int w26, .int w27, .ref g28, .ref g29, .int w30, .ref g31, .ref g32, .ref g33])), (g1, .inl (T 0, 282, .inl fa)), (g3, .inl (T 0, 900, .inl ft)), (g4, .inl (T 0, 94, .inl (upd f44 k44 (nI 20))))]) rfl dX8_street_66 (fun H locs V => ?_)
            refine lv_iinc (v := (nI (k44 + 1))) (lv' := [(2, .int (nI (k44 + 1))), (0, .ref o), (1, .int (nI jn))]) hx hb dX8_street_67 hl (k := 0) rfl (nI_1 _) (by decide) rfl (fun ls hl => ?_)
            refine lv_goto (tgt := 44) hx hb dX8_street_70 (by decide) ?_
            exact ih_44 (k44 + 1) (upd f44 k44 (nI 20)) (by omega) (up_one (p := fun j y => y = if j = 2 then nI 20 else nI 0) hf44 (by first | (rw [if_pos (by omega)]; done) | (rw [if_neg (by omega)]; done))) (fun j hj => (up_other (by omega)).trans (hf44b j hj)) (by omega) _ _ _ V (lv_sub hl [0, 1, 2] rfl)
    exact L_4 _ 0 ff (by omega) (fun i h => absurd h (Nat.not_lt_zero _)) (fun _ _ => rfl) (Nat.lt_succ_self _) _ _ _ V (lv_sub hl [0, 1, 2] rfl)
  · have V : gW D T A s [(o, .inr (8, [.int (nI 0), .ref g1, .ref g2, .ref g3, .ref g4, .int (nI tp), .int w6, .int w7, .int w8, .int w9, .int w10, .int w11, .int w12, .int w13, .int w14, .ref g15, .int w16, .ref g17, .int w18, .int w19, .ref g20, .int w21, .ref g22, .ref g23, .ref g24, .int w25, .int w26, .int w27, .ref g28, .ref g29, .int w30, .ref g31, .ref g32, .ref g33])), (g1, .inl (T 0, 282, .inl fa)), (g3, .inl (T 0, 900, .inl ft)), (g4, .inl (T 0, 94, .inl ff))] H locs := V _ [] rfl rfl rfl (by decide +kernel) rfl
    show W p l e _ s m args below meth c H locs _ _ _ (F0 m 16 ls [.int (nI 0)])
    refine lv_if_ne (tgt := 22) hx hb dX8_street_16 (by decide) (fun c => absurd (show (nI 0) = 0 by decide +kernel) c) (fun _ => ?_)
    refine lv_bipush (v := (-3)) hx hb dX8_street_19 (by decide +kernel) ?_
    exact g_iret (Qr := (q_m_street_f T n o n_ w0 g1 g2 g3 g4 tp w6 w7 w8 w9 w10 w11 w12 w13 w14 g15 w16 g17 w18 w19 g20 w21 g22 g23 g24 w25 w26 w27 g28 g29 w30 g31 g32 g33 fa ft ff)) hC V ⟨(Nat.le_of_ble_eq_true rfl), (Nat.le_of_ble_eq_true rfl)⟩ (.inl ⟨rfl, rfl, (by first | assumption | omega)⟩) dX8_street_21
