/-- how far the reading is: falls with each line -/
def rdM (sz be : Nat) (w k : Int32) : Nat := if w = 0 ∧ ¬ k = nI 11 then sz - be + 1 else 0
theorem rd_dec {sz b0 b1 : Nat} {w0 k0 w1 k1 : Int32} (h0 : w0 = 0) (hk : ¬ k0 = nI 11) (hb : b1 ≤ sz) (h : ¬ w1 = 0 ∨ k1 = nI 11 ∨ b0 < b1) : rdM sz b1 w1 k1 < rdM sz b0 w0 k0 := by
  have e : rdM sz b0 w0 k0 = sz - b0 + 1 := if_pos ⟨h0, hk⟩
  rw [e]
  unfold rdM
  split
  · rename_i c
    rcases h with h | h | h
    · exact absurd c.1 h
    · exact absurd h c.2
    · omega
  · omega
/-- the ropes that weren't told are laid -/
def SO (n k : Nat) (f g : Nat → Int32) : Prop := (∀ j, j < 84 → g j = f j) ∧ ∀ i, i < k → bd (g (84 + i)) n
theorem so_mi {n : Nat} {f g : Nat → Int32} (h : FR n f) (e : ∀ j, j < 84 → g j = f j) (t : ∀ i, i < n → bd (g (84 + i)) n) : MI n g := by
  obtain ⟨a1, a2, a3, a4, a5, a6⟩ := h
  refine ⟨a1, by rw [e 0 (by decide)]; exact a2, by rw [e 2 (by decide)]; exact a3, fun i hi => ?_⟩
  rw [e (14 + i) (by omega), e (24 + i) (by omega), e (54 + i) (by omega), e (64 + i) (by omega), e (4 + i) (by omega), a5 i (by omega)]
  exact ⟨(a4 i hi).1, (a4 i hi).2.1, (a4 i hi).2.2.1, bd_nI (by decide), t i hi, (a4 i hi).2.2.2⟩
theorem fr_to {n i : Nat} {f : Nat → Int32} (h : FR n f) (hi : i < 10) : bd (f (84 + i)) (n + 1) := h.2.2.2.2.2 i hi

theorem so_st {f : Nat → Int32} {k n : Nat} {x : Int32} (h : ∀ i, i < k → bd (f (84 + i)) n) (hx : bd x n) : ∀ i, i < k + 1 → bd (upd f (84 + k) x (84 + i)) n := by
  intro i hi
  by_cases e : i = k
  · subst e; rw [up_same]; exact hx
  · rw [up_other (by omega)]; exact h i (by omega)

def q_m_street (T : Nat → ClassId) (n : Nat) (o : Nat) (n_ : Int32) (w0 : Int32) (g1 : Nat) (g2 : Nat) (g3 : Nat) (g4 : Nat) (tp : Nat) (w6 : Int32) (w7 : Int32) (w8 : Int32) (w9 : Int32) (w10 : Int32) (w11 : Int32) (w12 : Int32) (w13 : Int32) (w14 : Int32) (g15 : Nat) (w16 : Int32) (g17 : Nat) (w18 : Int32) (w19 : Int32) (g20 : Nat) (w21 : Int32) (g22 : Nat) (g23 : Nat) (g24 : Nat) (w25 : Int32) (w26 : Int32) (w27 : Int32) (g28 : Nat) (g29 : Nat) (w30 : Int32) (g31 : Nat) (g32 : Nat) (g33 : Nat) (fa : Nat → Int32) (ft : Nat → Int32) (ff : Nat → Int32) : Option Value → va_W → Prop := fun rr ww => (∃ (z : Int32) (t2 : Nat) (y0 : Int32) (y1 : Int32) (y2 : Int32) (y3 : Int32) (y4 : Int32) (y5 : Int32) (y6 : Int32) (y7 : Int32) (y8 : Int32) (ga : Nat → Int32) (gf : Nat → Int32) (m0 : Nat), rr = some (.int z) ∧ ww = [(o, .inr (8, [.int (nI 0), .ref g1, .ref g2, .ref g3, .ref g4, .int (nI t2), .int y0, .int y1, .int y2, .int y3, .int y4, .int y5, .int y6, .int y7, .int y8, .ref g15, .int w16, .ref g17, .int w18, .int w19, .ref g20, .int w21, .ref g22, .ref g23, .ref g24, .int w25, .int w26, .int w27, .ref g28, .ref g29, .int w30, .ref g31, .ref g32, .ref g33])), (g1, .inl (T 0, 282, .inl ga)), (g3, .inl (T 0, 900, .inl ft)), (g4, .inl (T 0, 94, .inl gf))] ∧ t2 = strN n_ tp ∧ MI m0 ga ∧ (∀ j, 94 ≤ j → ga j = fa j))
set_option maxHeartbeats 4000000 in
set_option maxRecDepth 100000 in
theorem m_street (l : Launch) (D : va_G) (T : Nat → ClassId) (n : Nat) (o : Nat) (n_ : Int32) (w0 : Int32) (g1 : Nat) (g2 : Nat) (g3 : Nat) (g4 : Nat) (tp : Nat) (w6 : Int32) (w7 : Int32) (w8 : Int32) (w9 : Int32) (w10 : Int32) (w11 : Int32) (w12 : Int32) (w13 : Int32) (w14 : Int32) (g15 : Nat) (w16 : Int32) (g17 : Nat) (w18 : Int32) (w19 : Int32) (g20 : Nat) (w21 : Int32) (g22 : Nat) (g23 : Nat) (g24 : Nat) (w25 : Int32) (w26 : Int32) (w27 : Int32) (g28 : Nat) (g29 : Nat) (w30 : Int32) (g31 : Nat) (g32 : Nat) (g33 : Nat) (fa : Nat → Int32) (ft : Nat → Int32) (ff : Nat → Int32) (h_a : MI n fa) (h_t : tp ≤ 900) : Ct l yX8_street cX8_street 3 (some .int) 9 0 0 D T [.ref o, .int n_] [(o, .inr (8, [.int w0, .ref g1, .ref g2, .ref g3, .ref g4, .int (nI tp), .int w6, .int w7, .int w8, .int w9, .int w10, .int w11, .int w12, .int w13, .int w14, .ref g15, .int w16, .ref g17, .int w18, .int w19, .ref g20, .int w21, .ref g22, .ref g23, .ref g24, .int w25, .int w26, .int w27, .ref g28, .ref g29, .int w30, .ref g31, .ref g32, .ref g33])), (g1, .inl (T 0, 282, .inl fa)), (g3, .inl (T 0, 900, .inl ft)), (g4, .inl (T 0, 94, .inl ff))] (q_m_street T n o n_ w0 g1 g2 g3 g4 tp w6 w7 w8 w9 w10 w11 w12 w13 w14 g15 w16 g17 w18 w19 g20 w21 g22 g23 g24 w25 w26 w27 g28 g29 w30 g31 g32 g33 fa ft ff) := by
  refine Ct.of (cc := cX8_street) (maxL := 3) (ret := (some .int)) (by decide) (Nat.le_of_ble_eq_true rfl) ?_
  intro p e s m args below meth c A ls hC hnm V hl
  obtain ⟨hx, hb, hr, hml, hown, hts, hlocks⟩ := id hC
  generalize hH : s.heap = H at V ⊢
  clear hH
  have hl : lv_has ls 3 [(0, .ref o), (1, .int n_)] := hl
  generalize hlo : ([] : List Loc) = locs at V ⊢
  clear hlo
  have ms0 := ms_rf h_a
  have hn10 := h_a.1
  refine lv_aload_n hx hb dX8_street_0 rfl (lv_at hl 0 rfl) ?_
  refine lv_iconst (v := (nI 0)) hx hb dX8_street_1 (by decide +kernel) ?_
  refine g_put hC V (ci := 8) uwX8 tyX8 tyX8_ok nmX8 0 rfl rfl 0 (by decide) w_912 rfl rfl rfl rfl (Nat.le_of_ble_eq_true rfl) (ws' := [(o, .inr (8, [.int (nI 0), .ref g1, .ref g2, .ref g3, .ref g4, .int (nI tp), .int w6, .int w7, .int w8, .int w9, .int w10, .int w11, .int w12, .int w13, .int w14, .ref g15, .int w16, .ref g17, .int w18, .int w19, .ref g20, .int w21, .ref g22, .ref g23, .ref g24, .int w25, .int w26, .int w27, .ref g28, .ref g29, .int w30, .ref g31, .ref g32, .ref g33])), (g1, .inl (T 0, 282, .inl fa)), (g3, .inl (T 0, 900, .inl ft)), (g4, .inl (T 0, 94, .inl ff))]) rfl dX8_street_2 (fun H locs V => ?_)
  refine lv_iload_n hx hb dX8_street_5 rfl (lv_at hl 1 rfl) ?_
  refine lv_i2l (v := n_.toInt64) hx hb dX8_street_6 rfl ?_
  refine lv_lconst (v := (nI 0).toInt64) hx hb dX8_street_7 (by decide +kernel) ?_
  refine lv_aload_n hx hb dX8_street_8 rfl (lv_at hl 0 rfl) ?_
  refine g_get hC V (ci := 8) uwX8 0 rfl rfl 5 (by decide) w_917 rfl rfl dX8_street_9 ?_
  refine lv_i2l (v := (nI tp).toInt64) hx hb dX8_street_12 rfl ?_
  refine g_callS (wr := [(o, .inr (8, [.int (nI 0), .ref g1, .ref g2, .ref g3, .ref g4, .int (nI tp), .int w6, .int w7, .int w8, .int w9, .int w10, .int w11, .int w12, .int w13, .int w14, .ref g15, .int w16, .ref g17, .int w18, .int w19, .ref g20, .int w21, .ref g22, .ref g23, .ref g24, .int w25, .int w26, .int w27, .ref g28, .ref g29, .int w30, .ref g31, .ref g32, .ref g33])), (g1, .inl (T 0, 282, .inl fa)), (g3, .inl (T 0, 900, .inl ft)), (g4, .inl (T 0, 94, .inl ff))]) (nA := 3) hC V hl.1 (m_within l D T n_ (nI 0) (nI tp)) w_1023 w_1024 w_9 w_1025 (by decide +kernel) rfl ⟨(Nat.le_of_ble_eq_true rfl), (Nat.le_of_ble_eq_true rfl)⟩ [] [0, 1, 2, 3] rfl rfl rfl rfl (by decide) (Nat.le_of_ble_eq_true rfl) dX8_street_13 ⟨(Nat.le_of_ble_eq_true rfl), (Nat.le_of_ble_eq_true rfl)⟩ rfl (fun r w1 H locs hQ V => ?_)
  rcases hQ with ⟨rfl, rfl, f_1, f_2⟩ | ⟨rfl, rfl, f_3⟩
  · have V : gW D T A s [(o, .inr (8, [.int (nI 0), .ref g1, .ref g2, .ref g3, .ref g4, .int (nI tp), .int w6, .int w7, .int w8, .int w9, .int w10, .int w11, .int w12, .int w13, .int w14, .ref g15, .int w16, .ref g17, .int w18, .int w19, .ref g20, .int w21, .ref g22, .ref g23, .ref g24, .int w25, .int w26, .int w27, .ref g28, .ref g29, .int w30, .ref g31, .ref g32, .ref g33])), (g1, .inl (T 0, 282, .inl fa)), (g3, .inl (T 0, 900, .inl ft)), (g4, .inl (T 0, 94, .inl ff))] H locs := V
    show W p l e _ s m args below meth c H locs _ _ _ (F0 m 16 ls [.int (nI 1)])
    obtain ⟨jn, hjn1, hjn2, ejn⟩ := g_rng (by decide) (by omega) f_1 f_2
    rw [ejn] at hl
    refine lv_if_ne (tgt := 22) hx hb dX8_street_16 (by decide) (fun _ => ?_) (fun c => absurd (show (nI 1) = 0 from c) (by decide +kernel))
    refine lv_aload_n hx hb dX8_street_22 rfl (lv_at hl 0 rfl) ?_
    refine lv_iload_n hx hb dX8_street_23 rfl (lv_at hl 1 rfl) ?_
    refine g_put hC V (ci := 8) uwX8 tyX8 tyX8_ok nmX8 0 rfl rfl 8 (by decide) w_920 rfl rfl rfl rfl (Nat.le_of_ble_eq_true rfl) (ws' := [(o, .inr (8, [.int (nI 0), .ref g1, .ref g2, .ref g3, .ref g4, .int (nI tp), .int w6, .int w7, .int (nI jn), .int w9, .int w10, .int w11, .int w12, .int w13, .int w14, .ref g15, .int w16, .ref g17, .int w18, .int w19, .ref g20, .int w21, .ref g22, .ref g23, .ref g24, .int w25, .int w26, .int w27, .ref g28, .ref g29, .int w30, .ref g31, .ref g32, .ref g33])), (g1, .inl (T 0, 282, .inl fa)), (g3, .inl (T 0, 900, .inl ft)), (g4, .inl (T 0, 94, .inl ff))]) rfl dX8_street_24 (fun H locs V => ?_)
    refine lv_aload_n hx hb dX8_street_27 rfl (lv_at hl 0 rfl) ?_
    refine lv_iconst (v := (nI 0)) hx hb dX8_street_28 (by decide +kernel) ?_
    refine g_put hC V (ci := 8) uwX8 tyX8 tyX8_ok nmX8 0 rfl rfl 5 (by decide) w_917 rfl rfl rfl rfl (Nat.le_of_ble_eq_true rfl) (ws' := [(o, .inr (8, [.int (nI 0), .ref g1, .ref g2, .ref g3, .ref g4, .int (nI 0), .int w6, .int w7, .int (nI jn), .int w9, .int w10, .int w11, .int w12, .int w13, .int w14, .ref g15, .int w16, .ref g17, .int w18, .int w19, .ref g20, .int w21, .ref g22, .ref g23, .ref g24, .int w25, .int w26, .int w27, .ref g28, .ref g29, .int w30, .ref g31, .ref g32, .ref g33])), (g1, .inl (T 0, 282, .inl fa)), (g3, .inl (T 0, 900, .inl ft)), (g4, .inl (T 0, 94, .inl ff))]) rfl dX8_street_29 (fun H locs V => ?_)
    refine lv_aload_n hx hb dX8_street_32 rfl (lv_at hl 0 rfl) ?_
    refine lv_iconst (v := (nI 0)) hx hb dX8_street_33 (by decide +kernel) ?_
    refine g_put hC V (ci := 8) uwX8 tyX8 tyX8_ok nmX8 0 rfl rfl 7 (by decide) w_919 rfl rfl rfl rfl (Nat.le_of_ble_eq_true rfl) (ws' := [(o, .inr (8, [.int (nI 0), .ref g1, .ref g2, .ref g3, .ref g4, .int (nI 0), .int w6, .int (nI 0), .int (nI jn), .int w9, .int w10, .int w11, .int w12, .int w13, .int w14, .ref g15, .int w16, .ref g17, .int w18, .int w19, .ref g20, .int w21, .ref g22, .ref g23, .ref g24, .int w25, .int w26, .int w27, .ref g28, .ref g29, .int w30, .ref g31, .ref g32, .ref g33])), (g1, .inl (T 0, 282, .inl fa)), (g3, .inl (T 0, 900, .inl ft)), (g4, .inl (T 0, 94, .inl ff))]) rfl dX8_street_34 (fun H locs V => ?_)
    refine lv_aload_n hx hb dX8_street_37 rfl (lv_at hl 0 rfl) ?_
    refine lv_iconst (v := (nI 0)) hx hb dX8_street_38 (by decide +kernel) ?_
    refine g_put hC V (ci := 8) uwX8 tyX8 tyX8_ok nmX8 0 rfl rfl 11 (by decide) w_923 rfl rfl rfl rfl (Nat.le_of_ble_eq_true rfl) (ws' := [(o, .inr (8, [.int (nI 0), .ref g1, .ref g2, .ref g3, .ref g4, .int (nI 0), .int w6, .int (nI 0), .int (nI jn), .int w9, .int w10, .int (nI 0), .int w12, .int w13, .int w14, .ref g15, .int w16, .ref g17, .int w18, .int w19, .ref g20, .int w21, .ref g22, .ref g23, .ref g24, .int w25, .int w26, .int w27, .ref g28, .ref g29, .int w30, .ref g31, .ref g32, .ref g33])), (g1, .inl (T 0, 282, .inl fa)), (g3, .inl (T 0, 900, .inl ft)), (g4, .inl (T 0, 94, .inl ff))]) rfl dX8_street_39 (fun H locs V => ?_)
    refine lv_iconst (v := (nI 0)) hx hb dX8_street_42 (by decide +kernel) ?_
    refine lv_istore_n (lv' := [(2, .int (nI 0)), (0, .ref o), (1, .int (nI jn))]) hx hb dX8_street_43 rfl hl (by decide) rfl (fun ls hl => ?_)
    have L_4 : ∀ (fu : Nat) (k44 : Nat) (f44 : Nat → Int32), k44 ≤ 94 → (∀ j, j < k44 → f44 j = if j = 2 then nI 20 else nI 0) → 94 - k44 < fu → ∀ (H : Heap) (locs : List Loc) (ls : Array Slot), gW D T A s [(o, .inr (8, [.int (nI 0), .ref g1, .ref g2, .ref g3, .ref g4, .int (nI 0), .int w6, .int (nI 0), .int (nI jn), .int w9, .int w10, .int (nI 0), .int w12, .int w13, .int w14, .ref g15, .int w16, .ref g17, .int w18, .int w19, .ref g20, .int w21, .ref g22, .ref g23, .ref g24, .int w25, .int w26, .int w27, .ref g28, .ref g29, .int w30, .ref g31, .ref g32, .ref g33])), (g1, .inl (T 0, 282, .inl fa)), (g3, .inl (T 0, 900, .inl ft)), (g4, .inl (T 0, 94, .inl f44))] H locs → lv_has ls 3 [(2, .int (nI k44)), (0, .ref o), (1, .int (nI jn))] → W p l e (rmD 9 0 0) s m args below meth c H locs 0 0 (MQ below (gQ D A (q_m_street T n o n_ w0 g1 g2 g3 g4 tp w6 w7 w8 w9 w10 w11 w12 w13 w14 g15 w16 g17 w18 w19 g20 w21 g22 g23 g24 w25 w26 w27 g28 g29 w30 g31 g32 g33 fa ft ff)) args s 0 0 A) (F0 m 44 ls []) := by
      intro fu_44
      induction fu_44 with
      | zero => intro k44 f44 hk44 hf44 hmu; exact absurd hmu (Nat.not_lt_zero _)
      | succ fu_44 ih_44 =>
        intro k44 f44 hk44 hf44 hmu_44 H locs ls V hl
        refine lv_iload_n hx hb dX8_street_44 rfl (lv_at hl 0 rfl) ?_
        refine lv_bipush (v := (nI 94)) hx hb dX8_street_45 (by decide +kernel) ?_
        refine lv_icmp_ge (tgt := 73) hx hb dX8_street_47 (by decide) (fun c_5 => ?_) (fun c_5 => ?_)
        · skip
          have c_5 := b_le (by omega) (by omega) c_5
          have hfr0 : FR 0 f44 := fr_new (fun j hj => hf44 j (by omega))
          refine lv_aload_n hx hb dX8_street_73 rfl (lv_at hl 1 rfl) ?_
          refine g_callV (wr := [(g1, .inl (T 0, 282, .inl fa)), (g4, .inl (T 0, 94, .inl f44))]) (nA := 0) hC V hl.1 (m_next l D T o (nI 0) g1 g2 g3 g4 0 w6 0 jn w9 w10 (nI 0) w12 w13 w14 g15 w16 g17 w18 w19 g20 w21 g22 g23 g24 w25 w26 w27 g28 g29 w30 g31 g32 g33 ft (by first | assumption | omega) (by first | assumption | omega)) w_1026 w_1028 w_s36 w_9 w_1029 (by decide +kernel) rfl ⟨(Nat.le_of_ble_eq_true rfl), (Nat.le_of_ble_eq_true rfl)⟩ 0 (ci := 8) rfl rfl [0, 2] [1, 3] rfl rfl rfl rfl (by decide) (Nat.le_of_ble_eq_true rfl) dX8_street_74 ⟨(Nat.le_of_ble_eq_true rfl), (Nat.le_of_ble_eq_true rfl)⟩ rfl (fun r w1 H locs hQ V => ?_)
          obtain ⟨a2_6, b2_7, k2_8, n2_9, rfl, rfl, f_10, f_11, f_12⟩ := hQ
          have V : gW D T A s [(g1, .inl (T 0, 282, .inl fa)), (g4, .inl (T 0, 94, .inl f44)), (o, .inr (8, [.int (nI 0), .ref g1, .ref g2, .ref g3, .ref g4, .int (nI 0), .int (nI a2_6), .int (nI b2_7), .int (nI jn), .int k2_8, .int n2_9, .int (nI 0), .int w12, .int w13, .int w14, .ref g15, .int w16, .ref g17, .int w18, .int w19, .ref g20, .int w21, .ref g22, .ref g23, .ref g24, .int w25, .int w26, .int w27, .ref g28, .ref g29, .int w30, .ref g31, .ref g32, .ref g33])), (g3, .inl (T 0, 900, .inl ft))] H locs := V
          show W p l e _ s m args below meth c H locs _ _ _ (F0 m 77 ls [])
          have L_13 : ∀ (fu : Nat) (aq : Nat) (bq : Nat) (kv : Int32) (nv : Int32) (wv : Int32) (wav : Int32) (f77 : Nat → Int32) (nq : Nat), (wv = 0 → FR nq f77) → (aq ≤ bq ∧ bq ≤ jn) → rdM jn bq wv kv < fu → ∀ (H : Heap) (locs : List Loc) (ls : Array Slot), gW D T A s [(g1, .inl (T 0, 282, .inl fa)), (g4, .inl (T 0, 94, .inl f77)), (o, .inr (8, [.int (nI 0), .ref g1, .ref g2, .ref g3, .ref g4, .int (nI 0), .int (nI aq), .int (nI bq), .int (nI jn), .int kv, .int nv, .int wv, .int wav, .int w13, .int w14, .ref g15, .int w16, .ref g17, .int w18, .int w19, .ref g20, .int w21, .ref g22, .ref g23, .ref g24, .int w25, .int w26, .int w27, .ref g28, .ref g29, .int w30, .ref g31, .ref g32, .ref g33])), (g3, .inl (T 0, 900, .inl ft))] H locs → lv_has ls 3 [(0, .ref o), (1, .int (nI jn))] → W p l e (rmD 9 0 0) s m args below meth c H locs 0 0 (MQ below (gQ D A (q_m_street T n o n_ w0 g1 g2 g3 g4 tp w6 w7 w8 w9 w10 w11 w12 w13 w14 g15 w16 g17 w18 w19 g20 w21 g22 g23 g24 w25 w26 w27 g28 g29 w30 g31 g32 g33 fa ft ff)) args s 0 0 A) (F0 m 77 ls []) := by
            intro fu_77
            induction fu_77 with
            | zero => intro aq bq kv nv wv wav f77 nq hfr hab hmu; exact absurd hmu (Nat.not_lt_zero _)
            | succ fu_77 ih_77 =>
              intro aq bq kv nv wv wav f77 nq hfr hab hmu_77 H locs ls V hl
              refine lv_aload_n hx hb dX8_street_77 rfl (lv_at hl 0 rfl) ?_
              refine g_get hC V (ci := 8) uwX8 2 rfl rfl 11 (by decide) w_923 rfl rfl dX8_street_78 ?_
              refine lv_if_ne (tgt := 181) hx hb dX8_street_81 (by decide) (fun c_14 => ?_) (fun c_14 => ?_)
              · skip
                refine lv_aload_n hx hb dX8_street_181 rfl (lv_at hl 0 rfl) ?_
                refine lv_aload_n hx hb dX8_street_182 rfl (lv_at hl 0 rfl) ?_
                refine g_get hC V (ci := 8) uwX8 2 rfl rfl 11 (by decide) w_923 rfl rfl dX8_street_183 ?_
                refine g_put hC V (ci := 8) uwX8 tyX8 tyX8_ok nmX8 2 rfl rfl 13 (by decide) w_925 rfl rfl rfl rfl (Nat.le_of_ble_eq_true rfl) (ws' := [(g1, .inl (T 0, 282, .inl fa)), (g4, .inl (T 0, 94, .inl f77)), (o, .inr (8, [.int (nI 0), .ref g1, .ref g2, .ref g3, .ref g4, .int (nI 0), .int (nI aq), .int (nI bq), .int (nI jn), .int kv, .int nv, .int wv, .int wav, .int wv, .int w14, .ref g15, .int w16, .ref g17, .int w18, .int w19, .ref g20, .int w21, .ref g22, .ref g23, .ref g24, .int w25, .int w26, .int w27, .ref g28, .ref g29, .int w30, .ref g31, .ref g32, .ref g33])), (g3, .inl (T 0, 900, .inl ft))]) rfl dX8_street_186 (fun H locs V => ?_)
                refine lv_aload_n hx hb dX8_street_189 rfl (lv_at hl 0 rfl) ?_
                refine lv_aload_n hx hb dX8_street_190 rfl (lv_at hl 0 rfl) ?_
                refine g_get hC V (ci := 8) uwX8 2 rfl rfl 11 (by decide) w_923 rfl rfl dX8_street_191 ?_
                refine lv_if_ne (tgt := 201) hx hb dX8_street_194 (by decide) (fun c_15 => ?_) (fun c_15 => ?_)
                · skip
                  refine lv_aload_n hx hb dX8_street_201 rfl (lv_at hl 0 rfl) ?_
                  refine g_get hC V (ci := 8) uwX8 2 rfl rfl 12 (by decide) w_924 rfl rfl dX8_street_202 ?_
                  refine g_put hC V (ci := 8) uwX8 tyX8 tyX8_ok nmX8 2 rfl rfl 14 (by decide) w_926 rfl rfl rfl rfl (Nat.le_of_ble_eq_true rfl) (ws' := [(g1, .inl (T 0, 282, .inl fa)), (g4, .inl (T 0, 94, .inl f77)), (o, .inr (8, [.int (nI 0), .ref g1, .ref g2, .ref g3, .ref g4, .int (nI 0), .int (nI aq), .int (nI bq), .int (nI jn), .int kv, .int nv, .int wv, .int wav, .int wv, .int wav, .ref g15, .int w16, .ref g17, .int w18, .int w19, .ref g20, .int w21, .ref g22, .ref g23, .ref g24, .int w25, .int w26, .int w27, .ref g28, .ref g29, .int w30, .ref g31, .ref g32, .ref g33])), (g3, .inl (T 0, 900, .inl ft))]) rfl dX8_street_205 (fun H locs V => ?_)
                  refine lv_aload_n hx hb dX8_street_208 rfl (lv_at hl 0 rfl) ?_
                  refine g_get hC V (ci := 8) uwX8 2 rfl rfl 11 (by decide) w_923 rfl rfl dX8_street_209 ?_
                  refine lv_if_eq (tgt := 223) hx hb dX8_street_212 (by decide) (fun c_16 => ?_) (fun c_16 => ?_)
                  · skip
                    have hF2 := hfr c_16
                    have hn10 := hF2.1
                    refine lv_iconst (v := (nI 0)) hx hb dX8_street_223 (by decide +kernel) ?_
                    refine lv_istore_n (lv' := [(2, .int (nI 0)), (0, .ref o), (1, .int (nI jn))]) hx hb dX8_street_224 rfl hl (by decide) rfl (fun ls hl => ?_)
                    have L_17 : ∀ (fu : Nat) (k225 : Nat) (f225 : Nat → Int32), k225 ≤ 94 → (∀ j, j < k225 → f225 j = f77 j) → (∀ j, 94 ≤ j → f225 j = fa j) → 94 - k225 < fu → ∀ (H : Heap) (locs : List Loc) (ls : Array Slot), gW D T A s [(g1, .inl (T 0, 282, .inl f225)), (g4, .inl (T 0, 94, .inl f77)), (o, .inr (8, [.int (nI 0), .ref g1, .ref g2, .ref g3, .ref g4, .int (nI 0), .int (nI aq), .int (nI bq), .int (nI jn), .int kv, .int nv, .int wv, .int wav, .int wv, .int wav, .ref g15, .int w16, .ref g17, .int w18, .int w19, .ref g20, .int w21, .ref g22, .ref g23, .ref g24, .int w25, .int w26, .int w27, .ref g28, .ref g29, .int w30, .ref g31, .ref g32, .ref g33])), (g3, .inl (T 0, 900, .inl ft))] H locs → lv_has ls 3 [(2, .int (nI k225)), (0, .ref o), (1, .int (nI jn))] → W p l e (rmD 9 0 0) s m args below meth c H locs 0 0 (MQ below (gQ D A (q_m_street T n o n_ w0 g1 g2 g3 g4 tp w6 w7 w8 w9 w10 w11 w12 w13 w14 g15 w16 g17 w18 w19 g20 w21 g22 g23 g24 w25 w26 w27 g28 g29 w30 g31 g32 g33 fa ft ff)) args s 0 0 A) (F0 m 225 ls []) := by
                      intro fu_225
                      induction fu_225 with
                      | zero => intro k225 f225 hk225 h225a h225c hmu; exact absurd hmu (Nat.not_lt_zero _)
                      | succ fu_225 ih_225 =>
                        intro k225 f225 hk225 h225a h225c hmu_225 H locs ls V hl
                        refine lv_iload_n hx hb dX8_street_225 rfl (lv_at hl 0 rfl) ?_
                        refine lv_bipush (v := (nI 94)) hx hb dX8_street_226 (by decide +kernel) ?_
                        refine lv_icmp_ge (tgt := 249) hx hb dX8_street_228 (by decide) (fun c_18 => ?_) (fun c_18 => ?_)
                        · skip
                          have c_18 := b_le (by omega) (by omega) c_18
                          refine lv_iconst (v := (nI 0)) hx hb dX8_street_249 (by decide +kernel) ?_
                          refine lv_istore_n (lv' := [(2, .int (nI 0)), (0, .ref o), (1, .int (nI jn))]) hx hb dX8_street_250 rfl hl (by decide) rfl (fun ls hl => ?_)
                          have L_19 : ∀ (fu : Nat) (k251 : Nat) (f251 : Nat → Int32), k251 ≤ nq → (∀ j, j < 84 → f251 j = f77 j) → (∀ i, i < k251 → bd (f251 (84 + i)) nq) → (∀ j, 94 ≤ j → f251 j = fa j) → nq - k251 < fu → ∀ (H : Heap) (locs : List Loc) (ls : Array Slot), gW D T A s [(g1, .inl (T 0, 282, .inl f251)), (g4, .inl (T 0, 94, .inl f77)), (o, .inr (8, [.int (nI 0), .ref g1, .ref g2, .ref g3, .ref g4, .int (nI 0), .int (nI aq), .int (nI bq), .int (nI jn), .int kv, .int nv, .int wv, .int wav, .int wv, .int wav, .ref g15, .int w16, .ref g17, .int w18, .int w19, .ref g20, .int w21, .ref g22, .ref g23, .ref g24, .int w25, .int w26, .int w27, .ref g28, .ref g29, .int w30, .ref g31, .ref g32, .ref g33])), (g3, .inl (T 0, 900, .inl ft))] H locs → lv_has ls 3 [(2, .int (nI k251)), (0, .ref o), (1, .int (nI jn))] → W p l e (rmD 9 0 0) s m args below meth c H locs 0 0 (MQ below (gQ D A (q_m_street T n o n_ w0 g1 g2 g3 g4 tp w6 w7 w8 w9 w10 w11 w12 w13 w14 g15 w16 g17 w18 w19 g20 w21 g22 g23 g24 w25 w26 w27 g28 g29 w30 g31 g32 g33 fa ft ff)) args s 0 0 A) (F0 m 251 ls []) := by
                            intro fu_251
                            induction fu_251 with
                            | zero => intro k251 f251 hk251 h251a h251b h251c hmu; exact absurd hmu (Nat.not_lt_zero _)
                            | succ fu_251 ih_251 =>
                              intro k251 f251 hk251 h251a h251b h251c hmu_251 H locs ls V hl
                              refine lv_iload_n hx hb dX8_street_251 rfl (lv_at hl 0 rfl) ?_
                              refine lv_aload_n hx hb dX8_street_252 rfl (lv_at hl 1 rfl) ?_
                              refine g_get hC V (ci := 8) uwX8 2 rfl rfl 1 (by decide) w_913 rfl rfl dX8_street_253 ?_
                              refine lv_iconst (v := (nI 0)) hx hb dX8_street_256 (by decide +kernel) ?_
                              refine g_iald hC V 0 rfl (vp_in_nI (by decide) (by decide)) (v := (nI nq)) (by rw [nI_clamp (by decide)]; first | rfl | exact ((h251a 0 (by decide)).trans hF2.2.1) | exact h_a.2.1) dX8_street_257 ?_
                              refine lv_icmp_ge (tgt := 312) hx hb dX8_street_258 (by decide) (fun c_20 => ?_) (fun c_20 => ?_)
                              · skip
                                have c_20 := b_le (by omega) (by omega) c_20
                                refine lv_aload_n hx hb dX8_street_312 rfl (lv_at hl 1 rfl) ?_
                                refine g_get hC V (ci := 8) uwX8 2 rfl rfl 1 (by decide) w_913 rfl rfl dX8_street_313 ?_
                                refine lv_iconst (v := (nI 3)) hx hb dX8_street_316 (by decide +kernel) ?_
                                refine g_iald hC V 0 rfl (vp_in_nI (by decide) (by decide)) (v := (f251 3)) (congrArg _ (nI_clamp (by decide))) dX8_street_317 ?_
                                have V := V.sub (ws' := [(o, .inr (8, [.int (nI 0), .ref g1, .ref g2, .ref g3, .ref g4, .int (nI 0), .int (nI aq), .int (nI bq), .int (nI jn), .int kv, .int nv, .int wv, .int wav, .int wv, .int wav, .ref g15, .int w16, .ref g17, .int w18, .int w19, .ref g20, .int w21, .ref g22, .ref g23, .ref g24, .int w25, .int w26, .int w27, .ref g28, .ref g29, .int w30, .ref g31, .ref g32, .ref g33])), (g1, .inl (T 0, 282, .inl f251)), (g3, .inl (T 0, 900, .inl ft)), (g4, .inl (T 0, 94, .inl f77))]) [2, 0, 3, 1] rfl rfl
                                exact g_iret (Qr := (q_m_street T n o n_ w0 g1 g2 g3 g4 tp w6 w7 w8 w9 w10 w11 w12 w13 w14 g15 w16 g17 w18 w19 g20 w21 g22 g23 g24 w25 w26 w27 g28 g29 w30 g31 g32 g33 fa ft ff)) hC V ⟨(Nat.le_of_ble_eq_true rfl), (Nat.le_of_ble_eq_true rfl)⟩ ⟨(f251 3), 0, (nI aq), (nI bq), (nI jn), kv, nv, wv, wav, wv, wav, f251, f77, nq, rfl, rfl, (sr_2 (by assumption) (by assumption)), (so_mi hF2 h251a (fun i hi => h251b i (by omega))), h251c⟩ dX8_street_318
                              · skip
                                have c_20 := b_nle (by omega) (by omega) c_20
                                refine lv_aload_n hx hb dX8_street_261 rfl (lv_at hl 1 rfl) ?_
                                refine g_get hC V (ci := 8) uwX8 2 rfl rfl 1 (by decide) w_913 rfl rfl dX8_street_262 ?_
                                refine lv_bipush (v := (nI 84)) hx hb dX8_street_265 (by decide +kernel) ?_
                                refine lv_iload_n hx hb dX8_street_267 rfl (lv_at hl 0 rfl) ?_
                                refine lv_iadd hx hb dX8_street_268 ?_
                                refine g_vi (y := (nI (84 + k251))) (nI_add _ _) ?_
                                refine lv_aload_n hx hb dX8_street_269 rfl (lv_at hl 1 rfl) ?_
                                refine g_get hC V (ci := 8) uwX8 2 rfl rfl 4 (by decide) w_916 rfl rfl dX8_street_270 ?_
                                refine lv_bipush (v := (nI 84)) hx hb dX8_street_273 (by decide +kernel) ?_
                                refine lv_iload_n hx hb dX8_street_275 rfl (lv_at hl 0 rfl) ?_
                                refine lv_iadd hx hb dX8_street_276 ?_
                                refine g_vi (y := (nI (84 + k251))) (nI_add _ _) ?_
                                obtain ⟨j_21, hj_21, ej_21⟩ := bd_ex (fr_to hF2 (i := k251) (by omega))
                                refine g_iald hC V 1 rfl (vp_in_nI (by omega) (by omega)) (v := (nI j_21)) (by rw [nI_clamp (by omega)]; exact ej_21) dX8_street_277 ?_
                                refine lv_if_le (tgt := 295) hx hb dX8_street_278 (by decide) (fun c_22 => ?_) (fun c_22 => ?_)
                                · skip
                                  rw [show (0 : Int32) = nI 0 from rfl] at c_22
                                  have c_22 := b_le (by omega) (by omega) c_22
                                  refine lv_iload_n hx hb dX8_street_295 rfl (lv_at hl 0 rfl) ?_
                                  refine lv_iconst (v := (nI 1)) hx hb dX8_street_296 (by decide +kernel) ?_
                                  refine lv_iadd hx hb dX8_street_297 ?_
                                  refine g_vi (y := (nI (k251 + 1))) (nI_add _ _) ?_
                                  refine lv_aload_n hx hb dX8_street_298 rfl (lv_at hl 1 rfl) ?_
                                  refine g_get hC V (ci := 8) uwX8 2 rfl rfl 1 (by decide) w_913 rfl rfl dX8_street_299 ?_
                                  refine lv_iconst (v := (nI 0)) hx hb dX8_street_302 (by decide +kernel) ?_
                                  refine g_iald hC V 0 rfl (vp_in_nI (by decide) (by decide)) (v := (nI nq)) (by rw [nI_clamp (by decide)]; first | rfl | exact ((h251a 0 (by decide)).trans hF2.2.1) | exact h_a.2.1) dX8_street_303 ?_
                                  refine lv_irem hx hb dX8_street_304 (nI_ne0 (by omega) (by omega)) ?_
                                  refine g_vi (y := (nI ((k251 + 1) % nq))) (nI_rem (by omega) (by omega)) ?_
                                  refine g_iast hC V 0 rfl (vp_in_nI (by omega) (by omega)) (f' := (upd f251 (84 + k251) (nI ((k251 + 1) % nq)))) (by rw [nI_clamp (by omega)]) (ws' := [(g1, .inl (T 0, 282, .inl (upd f251 (84 + k251) (nI ((k251 + 1) % nq))))), (g4, .inl (T 0, 94, .inl f77)), (o, .inr (8, [.int (nI 0), .ref g1, .ref g2, .ref g3, .ref g4, .int (nI 0), .int (nI aq), .int (nI bq), .int (nI jn), .int kv, .int nv, .int wv, .int wav, .int wv, .int wav, .ref g15, .int w16, .ref g17, .int w18, .int w19, .ref g20, .int w21, .ref g22, .ref g23, .ref g24, .int w25, .int w26, .int w27, .ref g28, .ref g29, .int w30, .ref g31, .ref g32, .ref g33])), (g3, .inl (T 0, 900, .inl ft))]) rfl dX8_street_305 (fun H locs V => ?_)
                                  refine lv_iinc (v := (nI (k251 + 1))) (lv' := [(2, .int (nI (k251 + 1))), (0, .ref o), (1, .int (nI jn))]) hx hb dX8_street_306 hl (k := 0) rfl (nI_1 _) (by decide) rfl (fun ls hl => ?_)
                                  refine lv_goto (tgt := 251) hx hb dX8_street_309 (by decide) ?_
                                  exact ih_251 (k251 + 1) (upd f251 (84 + k251) (nI ((k251 + 1) % nq))) (by omega) (fun j hj => (up_other (by omega)).trans (h251a j hj)) (so_st h251b (by first | exact bd_nI (by omega) | exact bd_nI (Nat.mod_lt _ (by omega)))) (fun j hj => (up_other (by omega)).trans (h251c j hj)) (by omega) _ _ _ V (lv_sub hl [0, 1, 2] rfl)
                                · skip
                                  rw [show (0 : Int32) = nI 0 from rfl] at c_22
                                  have c_22 := b_nle (by omega) (by omega) c_22
                                  refine lv_aload_n hx hb dX8_street_281 rfl (lv_at hl 1 rfl) ?_
                                  refine g_get hC V (ci := 8) uwX8 2 rfl rfl 4 (by decide) w_916 rfl rfl dX8_street_282 ?_
                                  refine lv_bipush (v := (nI 84)) hx hb dX8_street_285 (by decide +kernel) ?_
                                  refine lv_iload_n hx hb dX8_street_287 rfl (lv_at hl 0 rfl) ?_
                                  refine lv_iadd hx hb dX8_street_288 ?_
                                  refine g_vi (y := (nI (84 + k251))) (nI_add _ _) ?_
                                  refine g_iald hC V 1 rfl (vp_in_nI (by omega) (by omega)) (v := (nI j_21)) (by rw [nI_clamp (by omega)]; exact ej_21) dX8_street_289 ?_
                                  refine lv_iconst (v := (nI 1)) hx hb dX8_street_290 (by decide +kernel) ?_
                                  refine lv_isub hx hb dX8_street_291 ?_
                                  refine g_vi (y := (nI (j_21 - 1))) (nI_sub (by omega)) ?_
                                  refine lv_goto (tgt := 305) hx hb dX8_street_292 (by decide) ?_
                                  refine g_iast hC V 0 rfl (vp_in_nI (by omega) (by omega)) (f' := (upd f251 (84 + k251) (nI (j_21 - 1)))) (by rw [nI_clamp (by omega)]) (ws' := [(g1, .inl (T 0, 282, .inl (upd f251 (84 + k251) (nI (j_21 - 1))))), (g4, .inl (T 0, 94, .inl f77)), (o, .inr (8, [.int (nI 0), .ref g1, .ref g2, .ref g3, .ref g4, .int (nI 0), .int (nI aq), .int (nI bq), .int (nI jn), .int kv, .int nv, .int wv, .int wav, .int wv, .int wav, .ref g15, .int w16, .ref g17, .int w18, .int w19, .ref g20, .int w21, .ref g22, .ref g23, .ref g24, .int w25, .int w26, .int w27, .ref g28, .ref g29, .int w30, .ref g31, .ref g32, .ref g33])), (g3, .inl (T 0, 900, .inl ft))]) rfl dX8_street_305 (fun H locs V => ?_)
                                  refine lv_iinc (v := (nI (k251 + 1))) (lv' := [(2, .int (nI (k251 + 1))), (0, .ref o), (1, .int (nI jn))]) hx hb dX8_street_306 hl (k := 0) rfl (nI_1 _) (by decide) rfl (fun ls hl => ?_)
                                  refine lv_goto (tgt := 251) hx hb dX8_street_309 (by decide) ?_
                                  exact ih_251 (k251 + 1) (upd f251 (84 + k251) (nI (j_21 - 1))) (by omega) (fun j hj => (up_other (by omega)).trans (h251a j hj)) (so_st h251b (by first | exact bd_nI (by omega) | exact bd_nI (Nat.mod_lt _ (by omega)))) (fun j hj => (up_other (by omega)).trans (h251c j hj)) (by omega) _ _ _ V (lv_sub hl [0, 1, 2] rfl)
                          exact L_19 _ 0 f225 (by omega) (fun j hj => h225a j (by omega)) (fun i h => absurd h (Nat.not_lt_zero _)) h225c (Nat.lt_succ_self _) _ _ _ V (lv_sub hl [0, 1, 2] rfl)
                        · skip
                          have c_18 := b_nle (by omega) (by omega) c_18
                          refine lv_aload_n hx hb dX8_street_231 rfl (lv_at hl 1 rfl) ?_
                          refine g_get hC V (ci := 8) uwX8 2 rfl rfl 1 (by decide) w_913 rfl rfl dX8_street_232 ?_
                          refine lv_iload_n hx hb dX8_street_235 rfl (lv_at hl 0 rfl) ?_
                          refine lv_aload_n hx hb dX8_street_236 rfl (lv_at hl 1 rfl) ?_
                          refine g_get hC V (ci := 8) uwX8 2 rfl rfl 4 (by decide) w_916 rfl rfl dX8_street_237 ?_
                          refine lv_iload_n hx hb dX8_street_240 rfl (lv_at hl 0 rfl) ?_
                          refine g_iald hC V 1 rfl (vp_in_nI (by omega) (by omega)) (v := (f77 k225)) (congrArg _ (nI_clamp (by omega))) dX8_street_241 ?_
                          refine g_iast hC V 0 rfl (vp_in_nI (by omega) (by omega)) (f' := (upd f225 k225 (f77 k225))) (by rw [nI_clamp (by omega)]) (ws' := [(g1, .inl (T 0, 282, .inl (upd f225 k225 (f77 k225)))), (g4, .inl (T 0, 94, .inl f77)), (o, .inr (8, [.int (nI 0), .ref g1, .ref g2, .ref g3, .ref g4, .int (nI 0), .int (nI aq), .int (nI bq), .int (nI jn), .int kv, .int nv, .int wv, .int wav, .int wv, .int wav, .ref g15, .int w16, .ref g17, .int w18, .int w19, .ref g20, .int w21, .ref g22, .ref g23, .ref g24, .int w25, .int w26, .int w27, .ref g28, .ref g29, .int w30, .ref g31, .ref g32, .ref g33])), (g3, .inl (T 0, 900, .inl ft))]) rfl dX8_street_242 (fun H locs V => ?_)
                          refine lv_iinc (v := (nI (k225 + 1))) (lv' := [(2, .int (nI (k225 + 1))), (0, .ref o), (1, .int (nI jn))]) hx hb dX8_street_243 hl (k := 0) rfl (nI_1 _) (by decide) rfl (fun ls hl => ?_)
                          refine lv_goto (tgt := 225) hx hb dX8_street_246 (by decide) ?_
                          exact ih_225 (k225 + 1) (upd f225 k225 (f77 k225)) (by omega) (up_one (p := fun j y => y = f77 j) h225a rfl) (fun j hj => (up_other (by omega)).trans (h225c j hj)) (by omega) _ _ _ V (lv_sub hl [0, 1, 2] rfl)
                    exact L_17 _ 0 fa (by omega) (fun i h => absurd h (Nat.not_lt_zero _)) (fun _ _ => rfl) (Nat.lt_succ_self _) _ _ _ V (lv_sub hl [0, 1, 2] rfl)
                  · skip
                    refine lv_bipush (v := (-30)) hx hb dX8_street_215 (by decide +kernel) ?_
                    refine lv_aload_n hx hb dX8_street_217 rfl (lv_at hl 0 rfl) ?_
                    refine g_get hC V (ci := 8) uwX8 2 rfl rfl 11 (by decide) w_923 rfl rfl dX8_street_218 ?_
                    refine lv_isub hx hb dX8_street_221 ?_
                    have V := V.sub (ws' := [(o, .inr (8, [.int (nI 0), .ref g1, .ref g2, .ref g3, .ref g4, .int (nI 0), .int (nI aq), .int (nI bq), .int (nI jn), .int kv, .int nv, .int wv, .int wav, .int wv, .int wav, .ref g15, .int w16, .ref g17, .int w18, .int w19, .ref g20, .int w21, .ref g22, .ref g23, .ref g24, .int w25, .int w26, .int w27, .ref g28, .ref g29, .int w30, .ref g31, .ref g32, .ref g33])), (g1, .inl (T 0, 282, .inl fa)), (g3, .inl (T 0, 900, .inl ft)), (g4, .inl (T 0, 94, .inl f77))]) [2, 0, 3, 1] rfl rfl
                    exact g_iret (Qr := (q_m_street T n o n_ w0 g1 g2 g3 g4 tp w6 w7 w8 w9 w10 w11 w12 w13 w14 g15 w16 g17 w18 w19 g20 w21 g22 g23 g24 w25 w26 w27 g28 g29 w30 g31 g32 g33 fa ft ff)) hC V ⟨(Nat.le_of_ble_eq_true rfl), (Nat.le_of_ble_eq_true rfl)⟩ ⟨((-30) - wv), 0, (nI aq), (nI bq), (nI jn), kv, nv, wv, wav, wv, wav, fa, f77, n, rfl, rfl, (sr_2 (by assumption) (by assumption)), h_a, (fun _ _ => rfl)⟩ dX8_street_222
                · skip
                  refine lv_iconst (v := (-1)) hx hb dX8_street_197 (by decide +kernel) ?_
                  refine lv_goto (tgt := 205) hx hb dX8_street_198 (by decide) ?_
                  refine g_put hC V (ci := 8) uwX8 tyX8 tyX8_ok nmX8 2 rfl rfl 14 (by decide) w_926 rfl rfl rfl rfl (Nat.le_of_ble_eq_true rfl) (ws' := [(g1, .inl (T 0, 282, .inl fa)), (g4, .inl (T 0, 94, .inl f77)), (o, .inr (8, [.int (nI 0), .ref g1, .ref g2, .ref g3, .ref g4, .int (nI 0), .int (nI aq), .int (nI bq), .int (nI jn), .int kv, .int nv, .int wv, .int wav, .int wv, .int (-1), .ref g15, .int w16, .ref g17, .int w18, .int w19, .ref g20, .int w21, .ref g22, .ref g23, .ref g24, .int w25, .int w26, .int w27, .ref g28, .ref g29, .int w30, .ref g31, .ref g32, .ref g33])), (g3, .inl (T 0, 900, .inl ft))]) rfl dX8_street_205 (fun H locs V => ?_)
                  refine lv_aload_n hx hb dX8_street_208 rfl (lv_at hl 0 rfl) ?_
                  refine g_get hC V (ci := 8) uwX8 2 rfl rfl 11 (by decide) w_923 rfl rfl dX8_street_209 ?_
                  refine lv_if_eq (tgt := 223) hx hb dX8_street_212 (by decide) (fun c_23 => ?_) (fun c_23 => ?_)
                  · skip
                    have hF2 := hfr c_23
                    have hn10 := hF2.1
                    refine lv_iconst (v := (nI 0)) hx hb dX8_street_223 (by decide +kernel) ?_
                    refine lv_istore_n (lv' := [(2, .int (nI 0)), (0, .ref o), (1, .int (nI jn))]) hx hb dX8_street_224 rfl hl (by decide) rfl (fun ls hl => ?_)
                    have L_24 : ∀ (fu : Nat) (k225 : Nat) (f225 : Nat → Int32), k225 ≤ 94 → (∀ j, j < k225 → f225 j = f77 j) → (∀ j, 94 ≤ j → f225 j = fa j) → 94 - k225 < fu → ∀ (H : Heap) (locs : List Loc) (ls : Array Slot), gW D T A s [(g1, .inl (T 0, 282, .inl f225)), (g4, .inl (T 0, 94, .inl f77)), (o, .inr (8, [.int (nI 0), .ref g1, .ref g2, .ref g3, .ref g4, .int (nI 0), .int (nI aq), .int (nI bq), .int (nI jn), .int kv, .int nv, .int wv, .int wav, .int wv, .int (-1), .ref g15, .int w16, .ref g17, .int w18, .int w19, .ref g20, .int w21, .ref g22, .ref g23, .ref g24, .int w25, .int w26, .int w27, .ref g28, .ref g29, .int w30, .ref g31, .ref g32, .ref g33])), (g3, .inl (T 0, 900, .inl ft))] H locs → lv_has ls 3 [(2, .int (nI k225)), (0, .ref o), (1, .int (nI jn))] → W p l e (rmD 9 0 0) s m args below meth c H locs 0 0 (MQ below (gQ D A (q_m_street T n o n_ w0 g1 g2 g3 g4 tp w6 w7 w8 w9 w10 w11 w12 w13 w14 g15 w16 g17 w18 w19 g20 w21 g22 g23 g24 w25 w26 w27 g28 g29 w30 g31 g32 g33 fa ft ff)) args s 0 0 A) (F0 m 225 ls []) := by
                      intro fu_225
                      induction fu_225 with
                      | zero => intro k225 f225 hk225 h225a h225c hmu; exact absurd hmu (Nat.not_lt_zero _)
                      | succ fu_225 ih_225 =>
                        intro k225 f225 hk225 h225a h225c hmu_225 H locs ls V hl
                        refine lv_iload_n hx hb dX8_street_225 rfl (lv_at hl 0 rfl) ?_
                        refine lv_bipush (v := (nI 94)) hx hb dX8_street_226 (by decide +kernel) ?_
                        refine lv_icmp_ge (tgt := 249) hx hb dX8_street_228 (by decide) (fun c_25 => ?_) (fun c_25 => ?_)
                        · skip
                          have c_25 := b_le (by omega) (by omega) c_25
                          refine lv_iconst (v := (nI 0)) hx hb dX8_street_249 (by decide +kernel) ?_
                          refine lv_istore_n (lv' := [(2, .int (nI 0)), (0, .ref o), (1, .int (nI jn))]) hx hb dX8_street_250 rfl hl (by decide) rfl (fun ls hl => ?_)
                          have L_26 : ∀ (fu : Nat) (k251 : Nat) (f251 : Nat → Int32), k251 ≤ nq → (∀ j, j < 84 → f251 j = f77 j) → (∀ i, i < k251 → bd (f251 (84 + i)) nq) → (∀ j, 94 ≤ j → f251 j = fa j) → nq - k251 < fu → ∀ (H : Heap) (locs : List Loc) (ls : Array Slot), gW D T A s [(g1, .inl (T 0, 282, .inl f251)), (g4, .inl (T 0, 94, .inl f77)), (o, .inr (8, [.int (nI 0), .ref g1, .ref g2, .ref g3, .ref g4, .int (nI 0), .int (nI aq), .int (nI bq), .int (nI jn), .int kv, .int nv, .int wv, .int wav, .int wv, .int (-1), .ref g15, .int w16, .ref g17, .int w18, .int w19, .ref g20, .int w21, .ref g22, .ref g23, .ref g24, .int w25, .int w26, .int w27, .ref g28, .ref g29, .int w30, .ref g31, .ref g32, .ref g33])), (g3, .inl (T 0, 900, .inl ft))] H locs → lv_has ls 3 [(2, .int (nI k251)), (0, .ref o), (1, .int (nI jn))] → W p l e (rmD 9 0 0) s m args below meth c H locs 0 0 (MQ below (gQ D A (q_m_street T n o n_ w0 g1 g2 g3 g4 tp w6 w7 w8 w9 w10 w11 w12 w13 w14 g15 w16 g17 w18 w19 g20 w21 g22 g23 g24 w25 w26 w27 g28 g29 w30 g31 g32 g33 fa ft ff)) args s 0 0 A) (F0 m 251 ls []) := by
                            intro fu_251
                            induction fu_251 with
                            | zero => intro k251 f251 hk251 h251a h251b h251c hmu; exact absurd hmu (Nat.not_lt_zero _)
                            | succ fu_251 ih_251 =>
                              intro k251 f251 hk251 h251a h251b h251c hmu_251 H locs ls V hl
                              refine lv_iload_n hx hb dX8_street_251 rfl (lv_at hl 0 rfl) ?_
                              refine lv_aload_n hx hb dX8_street_252 rfl (lv_at hl 1 rfl) ?_
                              refine g_get hC V (ci := 8) uwX8 2 rfl rfl 1 (by decide) w_913 rfl rfl dX8_street_253 ?_
                              refine lv_iconst (v := (nI 0)) hx hb dX8_street_256 (by decide +kernel) ?_
                              refine g_iald hC V 0 rfl (vp_in_nI (by decide) (by decide)) (v := (nI nq)) (by rw [nI_clamp (by decide)]; first | rfl | exact ((h251a 0 (by decide)).trans hF2.2.1) | exact h_a.2.1) dX8_street_257 ?_
                              refine lv_icmp_ge (tgt := 312) hx hb dX8_street_258 (by decide) (fun c_27 => ?_) (fun c_27 => ?_)
                              · skip
                                have c_27 := b_le (by omega) (by omega) c_27
                                refine lv_aload_n hx hb dX8_street_312 rfl (lv_at hl 1 rfl) ?_
                                refine g_get hC V (ci := 8) uwX8 2 rfl rfl 1 (by decide) w_913 rfl rfl dX8_street_313 ?_
                                refine lv_iconst (v := (nI 3)) hx hb dX8_street_316 (by decide +kernel) ?_
                                refine g_iald hC V 0 rfl (vp_in_nI (by decide) (by decide)) (v := (f251 3)) (congrArg _ (nI_clamp (by decide))) dX8_street_317 ?_
                                have V := V.sub (ws' := [(o, .inr (8, [.int (nI 0), .ref g1, .ref g2, .ref g3, .ref g4, .int (nI 0), .int (nI aq), .int (nI bq), .int (nI jn), .int kv, .int nv, .int wv, .int wav, .int wv, .int (-1), .ref g15, .int w16, .ref g17, .int w18, .int w19, .ref g20, .int w21, .ref g22, .ref g23, .ref g24, .int w25, .int w26, .int w27, .ref g28, .ref g29, .int w30, .ref g31, .ref g32, .ref g33])), (g1, .inl (T 0, 282, .inl f251)), (g3, .inl (T 0, 900, .inl ft)), (g4, .inl (T 0, 94, .inl f77))]) [2, 0, 3, 1] rfl rfl
                                exact g_iret (Qr := (q_m_street T n o n_ w0 g1 g2 g3 g4 tp w6 w7 w8 w9 w10 w11 w12 w13 w14 g15 w16 g17 w18 w19 g20 w21 g22 g23 g24 w25 w26 w27 g28 g29 w30 g31 g32 g33 fa ft ff)) hC V ⟨(Nat.le_of_ble_eq_true rfl), (Nat.le_of_ble_eq_true rfl)⟩ ⟨(f251 3), 0, (nI aq), (nI bq), (nI jn), kv, nv, wv, wav, wv, (-1), f251, f77, nq, rfl, rfl, (sr_2 (by assumption) (by assumption)), (so_mi hF2 h251a (fun i hi => h251b i (by omega))), h251c⟩ dX8_street_318
                              · skip
                                have c_27 := b_nle (by omega) (by omega) c_27
                                refine lv_aload_n hx hb dX8_street_261 rfl (lv_at hl 1 rfl) ?_
                                refine g_get hC V (ci := 8) uwX8 2 rfl rfl 1 (by decide) w_913 rfl rfl dX8_street_262 ?_
                                refine lv_bipush (v := (nI 84)) hx hb dX8_street_265 (by decide +kernel) ?_
                                refine lv_iload_n hx hb dX8_street_267 rfl (lv_at hl 0 rfl) ?_
                                refine lv_iadd hx hb dX8_street_268 ?_
                                refine g_vi (y := (nI (84 + k251))) (nI_add _ _) ?_
                                refine lv_aload_n hx hb dX8_street_269 rfl (lv_at hl 1 rfl) ?_
                                refine g_get hC V (ci := 8) uwX8 2 rfl rfl 4 (by decide) w_916 rfl rfl dX8_street_270 ?_
                                refine lv_bipush (v := (nI 84)) hx hb dX8_street_273 (by decide +kernel) ?_
                                refine lv_iload_n hx hb dX8_street_275 rfl (lv_at hl 0 rfl) ?_
                                refine lv_iadd hx hb dX8_street_276 ?_
                                refine g_vi (y := (nI (84 + k251))) (nI_add _ _) ?_
                                obtain ⟨j_28, hj_28, ej_28⟩ := bd_ex (fr_to hF2 (i := k251) (by omega))
                                refine g_iald hC V 1 rfl (vp_in_nI (by omega) (by omega)) (v := (nI j_28)) (by rw [nI_clamp (by omega)]; exact ej_28) dX8_street_277 ?_
                                refine lv_if_le (tgt := 295) hx hb dX8_street_278 (by decide) (fun c_29 => ?_) (fun c_29 => ?_)
                                · skip
                                  rw [show (0 : Int32) = nI 0 from rfl] at c_29
                                  have c_29 := b_le (by omega) (by omega) c_29
                                  refine lv_iload_n hx hb dX8_street_295 rfl (lv_at hl 0 rfl) ?_
                                  refine lv_iconst (v := (nI 1)) hx hb dX8_street_296 (by decide +kernel) ?_
                                  refine lv_iadd hx hb dX8_street_297 ?_
                                  refine g_vi (y := (nI (k251 + 1))) (nI_add _ _) ?_
                                  refine lv_aload_n hx hb dX8_street_298 rfl (lv_at hl 1 rfl) ?_
                                  refine g_get hC V (ci := 8) uwX8 2 rfl rfl 1 (by decide) w_913 rfl rfl dX8_street_299 ?_
                                  refine lv_iconst (v := (nI 0)) hx hb dX8_street_302 (by decide +kernel) ?_
                                  refine g_iald hC V 0 rfl (vp_in_nI (by decide) (by decide)) (v := (nI nq)) (by rw [nI_clamp (by decide)]; first | rfl | exact ((h251a 0 (by decide)).trans hF2.2.1) | exact h_a.2.1) dX8_street_303 ?_
                                  refine lv_irem hx hb dX8_street_304 (nI_ne0 (by omega) (by omega)) ?_
                                  refine g_vi (y := (nI ((k251 + 1) % nq))) (nI_rem (by omega) (by omega)) ?_
                                  refine g_iast hC V 0 rfl (vp_in_nI (by omega) (by omega)) (f' := (upd f251 (84 + k251) (nI ((k251 + 1) % nq)))) (by rw [nI_clamp (by omega)]) (ws' := [(g1, .inl (T 0, 282, .inl (upd f251 (84 + k251) (nI ((k251 + 1) % nq))))), (g4, .inl (T 0, 94, .inl f77)), (o, .inr (8, [.int (nI 0), .ref g1, .ref g2, .ref g3, .ref g4, .int (nI 0), .int (nI aq), .int (nI bq), .int (nI jn), .int kv, .int nv, .int wv, .int wav, .int wv, .int (-1), .ref g15, .int w16, .ref g17, .int w18, .int w19, .ref g20, .int w21, .ref g22, .ref g23, .ref g24, .int w25, .int w26, .int w27, .ref g28, .ref g29, .int w30, .ref g31, .ref g32, .ref g33])), (g3, .inl (T 0, 900, .inl ft))]) rfl dX8_street_305 (fun H locs V => ?_)
                                  refine lv_iinc (v := (nI (k251 + 1))) (lv' := [(2, .int (nI (k251 + 1))), (0, .ref o), (1, .int (nI jn))]) hx hb dX8_street_306 hl (k := 0) rfl (nI_1 _) (by decide) rfl (fun ls hl => ?_)
                                  refine lv_goto (tgt := 251) hx hb dX8_street_309 (by decide) ?_
                                  exact ih_251 (k251 + 1) (upd f251 (84 + k251) (nI ((k251 + 1) % nq))) (by omega) (fun j hj => (up_other (by omega)).trans (h251a j hj)) (so_st h251b (by first | exact bd_nI (by omega) | exact bd_nI (Nat.mod_lt _ (by omega)))) (fun j hj => (up_other (by omega)).trans (h251c j hj)) (by omega) _ _ _ V (lv_sub hl [0, 1, 2] rfl)
                                · skip
                                  rw [show (0 : Int32) = nI 0 from rfl] at c_29
                                  have c_29 := b_nle (by omega) (by omega) c_29
                                  refine lv_aload_n hx hb dX8_street_281 rfl (lv_at hl 1 rfl) ?_
                                  refine g_get hC V (ci := 8) uwX8 2 rfl rfl 4 (by decide) w_916 rfl rfl dX8_street_282 ?_
                                  refine lv_bipush (v := (nI 84)) hx hb dX8_street_285 (by decide +kernel) ?_
                                  refine lv_iload_n hx hb dX8_street_287 rfl (lv_at hl 0 rfl) ?_
                                  refine lv_iadd hx hb dX8_street_288 ?_
                                  refine g_vi (y := (nI (84 + k251))) (nI_add _ _) ?_
                                  refine g_iald hC V 1 rfl (vp_in_nI (by omega) (by omega)) (v := (nI j_28)) (by rw [nI_clamp (by omega)]; exact ej_28) dX8_street_289 ?_
                                  refine lv_iconst (v := (nI 1)) hx hb dX8_street_290 (by decide +kernel) ?_
                                  refine lv_isub hx hb dX8_street_291 ?_
                                  refine g_vi (y := (nI (j_28 - 1))) (nI_sub (by omega)) ?_
                                  refine lv_goto (tgt := 305) hx hb dX8_street_292 (by decide) ?_
                                  refine g_iast hC V 0 rfl (vp_in_nI (by omega) (by omega)) (f' := (upd f251 (84 + k251) (nI (j_28 - 1)))) (by rw [nI_clamp (by omega)]) (ws' := [(g1, .inl (T 0, 282, .inl (upd f251 (84 + k251) (nI (j_28 - 1))))), (g4, .inl (T 0, 94, .inl f77)), (o, .inr (8, [.int (nI 0), .ref g1, .ref g2, .ref g3, .ref g4, .int (nI 0), .int (nI aq), .int (nI bq), .int (nI jn), .int kv, .int nv, .int wv, .int wav, .int wv, .int (-1), .ref g15, .int w16, .ref g17, .int w18, .int w19, .ref g20, .int w21, .ref g22, .ref g23, .ref g24, .int w25, .int w26, .int w27, .ref g28, .ref g29, .int w30, .ref g31, .ref g32, .ref g33])), (g3, .inl (T 0, 900, .inl ft))]) rfl dX8_street_305 (fun H locs V => ?_)
                                  refine lv_iinc (v := (nI (k251 + 1))) (lv' := [(2, .int (nI (k251 + 1))), (0, .ref o), (1, .int (nI jn))]) hx hb dX8_street_306 hl (k := 0) rfl (nI_1 _) (by decide) rfl (fun ls hl => ?_)
                                  refine lv_goto (tgt := 251) hx hb dX8_street_309 (by decide) ?_
                                  exact ih_251 (k251 + 1) (upd f251 (84 + k251) (nI (j_28 - 1))) (by omega) (fun j hj => (up_other (by omega)).trans (h251a j hj)) (so_st h251b (by first | exact bd_nI (by omega) | exact bd_nI (Nat.mod_lt _ (by omega)))) (fun j hj => (up_other (by omega)).trans (h251c j hj)) (by omega) _ _ _ V (lv_sub hl [0, 1, 2] rfl)
                          exact L_26 _ 0 f225 (by omega) (fun j hj => h225a j (by omega)) (fun i h => absurd h (Nat.not_lt_zero _)) h225c (Nat.lt_succ_self _) _ _ _ V (lv_sub hl [0, 1, 2] rfl)
                        · skip
                          have c_25 := b_nle (by omega) (by omega) c_25
                          refine lv_aload_n hx hb dX8_street_231 rfl (lv_at hl 1 rfl) ?_
                          refine g_get hC V (ci := 8) uwX8 2 rfl rfl 1 (by decide) w_913 rfl rfl dX8_street_232 ?_
                          refine lv_iload_n hx hb dX8_street_235 rfl (lv_at hl 0 rfl) ?_
                          refine lv_aload_n hx hb dX8_street_236 rfl (lv_at hl 1 rfl) ?_
                          refine g_get hC V (ci := 8) uwX8 2 rfl rfl 4 (by decide) w_916 rfl rfl dX8_street_237 ?_
                          refine lv_iload_n hx hb dX8_street_240 rfl (lv_at hl 0 rfl) ?_
                          refine g_iald hC V 1 rfl (vp_in_nI (by omega) (by omega)) (v := (f77 k225)) (congrArg _ (nI_clamp (by omega))) dX8_street_241 ?_
                          refine g_iast hC V 0 rfl (vp_in_nI (by omega) (by omega)) (f' := (upd f225 k225 (f77 k225))) (by rw [nI_clamp (by omega)]) (ws' := [(g1, .inl (T 0, 282, .inl (upd f225 k225 (f77 k225)))), (g4, .inl (T 0, 94, .inl f77)), (o, .inr (8, [.int (nI 0), .ref g1, .ref g2, .ref g3, .ref g4, .int (nI 0), .int (nI aq), .int (nI bq), .int (nI jn), .int kv, .int nv, .int wv, .int wav, .int wv, .int (-1), .ref g15, .int w16, .ref g17, .int w18, .int w19, .ref g20, .int w21, .ref g22, .ref g23, .ref g24, .int w25, .int w26, .int w27, .ref g28, .ref g29, .int w30, .ref g31, .ref g32, .ref g33])), (g3, .inl (T 0, 900, .inl ft))]) rfl dX8_street_242 (fun H locs V => ?_)
                          refine lv_iinc (v := (nI (k225 + 1))) (lv' := [(2, .int (nI (k225 + 1))), (0, .ref o), (1, .int (nI jn))]) hx hb dX8_street_243 hl (k := 0) rfl (nI_1 _) (by decide) rfl (fun ls hl => ?_)
                          refine lv_goto (tgt := 225) hx hb dX8_street_246 (by decide) ?_
                          exact ih_225 (k225 + 1) (upd f225 k225 (f77 k225)) (by omega) (up_one (p := fun j y => y = f77 j) h225a rfl) (fun j hj => (up_other (by omega)).trans (h225c j hj)) (by omega) _ _ _ V (lv_sub hl [0, 1, 2] rfl)
                    exact L_24 _ 0 fa (by omega) (fun i h => absurd h (Nat.not_lt_zero _)) (fun _ _ => rfl) (Nat.lt_succ_self _) _ _ _ V (lv_sub hl [0, 1, 2] rfl)
                  · skip
                    refine lv_bipush (v := (-30)) hx hb dX8_street_215 (by decide +kernel) ?_
                    refine lv_aload_n hx hb dX8_street_217 rfl (lv_at hl 0 rfl) ?_
                    refine g_get hC V (ci := 8) uwX8 2 rfl rfl 11 (by decide) w_923 rfl rfl dX8_street_218 ?_
                    refine lv_isub hx hb dX8_street_221 ?_
                    have V := V.sub (ws' := [(o, .inr (8, [.int (nI 0), .ref g1, .ref g2, .ref g3, .ref g4, .int (nI 0), .int (nI aq), .int (nI bq), .int (nI jn), .int kv, .int nv, .int wv, .int wav, .int wv, .int (-1), .ref g15, .int w16, .ref g17, .int w18, .int w19, .ref g20, .int w21, .ref g22, .ref g23, .ref g24, .int w25, .int w26, .int w27, .ref g28, .ref g29, .int w30, .ref g31, .ref g32, .ref g33])), (g1, .inl (T 0, 282, .inl fa)), (g3, .inl (T 0, 900, .inl ft)), (g4, .inl (T 0, 94, .inl f77))]) [2, 0, 3, 1] rfl rfl
                    exact g_iret (Qr := (q_m_street T n o n_ w0 g1 g2 g3 g4 tp w6 w7 w8 w9 w10 w11 w12 w13 w14 g15 w16 g17 w18 w19 g20 w21 g22 g23 g24 w25 w26 w27 g28 g29 w30 g31 g32 g33 fa ft ff)) hC V ⟨(Nat.le_of_ble_eq_true rfl), (Nat.le_of_ble_eq_true rfl)⟩ ⟨((-30) - wv), 0, (nI aq), (nI bq), (nI jn), kv, nv, wv, wav, wv, (-1), fa, f77, n, rfl, rfl, (sr_2 (by assumption) (by assumption)), h_a, (fun _ _ => rfl)⟩ dX8_street_222
              · skip
                have hw0 := c_14
                have hF := hfr c_14
                refine lv_aload_n hx hb dX8_street_84 rfl (lv_at hl 0 rfl) ?_
                refine g_get hC V (ci := 8) uwX8 2 rfl rfl 9 (by decide) w_921 rfl rfl dX8_street_85 ?_
                refine lv_bipush (v := (nI 11)) hx hb dX8_street_88 (by decide +kernel) ?_
                refine lv_icmp_eq (tgt := 181) hx hb dX8_street_90 (by decide) (fun c_30 => ?_) (fun c_30 => ?_)
                · skip
                  refine lv_aload_n hx hb dX8_street_181 rfl (lv_at hl 0 rfl) ?_
                  refine lv_aload_n hx hb dX8_street_182 rfl (lv_at hl 0 rfl) ?_
                  refine g_get hC V (ci := 8) uwX8 2 rfl rfl 11 (by decide) w_923 rfl rfl dX8_street_183 ?_
                  refine g_put hC V (ci := 8) uwX8 tyX8 tyX8_ok nmX8 2 rfl rfl 13 (by decide) w_925 rfl rfl rfl rfl (Nat.le_of_ble_eq_true rfl) (ws' := [(g1, .inl (T 0, 282, .inl fa)), (g4, .inl (T 0, 94, .inl f77)), (o, .inr (8, [.int (nI 0), .ref g1, .ref g2, .ref g3, .ref g4, .int (nI 0), .int (nI aq), .int (nI bq), .int (nI jn), .int kv, .int nv, .int wv, .int wav, .int wv, .int w14, .ref g15, .int w16, .ref g17, .int w18, .int w19, .ref g20, .int w21, .ref g22, .ref g23, .ref g24, .int w25, .int w26, .int w27, .ref g28, .ref g29, .int w30, .ref g31, .ref g32, .ref g33])), (g3, .inl (T 0, 900, .inl ft))]) rfl dX8_street_186 (fun H locs V => ?_)
                  refine lv_aload_n hx hb dX8_street_189 rfl (lv_at hl 0 rfl) ?_
                  refine lv_aload_n hx hb dX8_street_190 rfl (lv_at hl 0 rfl) ?_
                  refine g_get hC V (ci := 8) uwX8 2 rfl rfl 11 (by decide) w_923 rfl rfl dX8_street_191 ?_
                  refine lv_if_ne (tgt := 201) hx hb dX8_street_194 (by decide) (fun c_31 => ?_) (fun c_31 => ?_)
                  · skip
                    refine lv_aload_n hx hb dX8_street_201 rfl (lv_at hl 0 rfl) ?_
                    refine g_get hC V (ci := 8) uwX8 2 rfl rfl 12 (by decide) w_924 rfl rfl dX8_street_202 ?_
                    refine g_put hC V (ci := 8) uwX8 tyX8 tyX8_ok nmX8 2 rfl rfl 14 (by decide) w_926 rfl rfl rfl rfl (Nat.le_of_ble_eq_true rfl) (ws' := [(g1, .inl (T 0, 282, .inl fa)), (g4, .inl (T 0, 94, .inl f77)), (o, .inr (8, [.int (nI 0), .ref g1, .ref g2, .ref g3, .ref g4, .int (nI 0), .int (nI aq), .int (nI bq), .int (nI jn), .int kv, .int nv, .int wv, .int wav, .int wv, .int wav, .ref g15, .int w16, .ref g17, .int w18, .int w19, .ref g20, .int w21, .ref g22, .ref g23, .ref g24, .int w25, .int w26, .int w27, .ref g28, .ref g29, .int w30, .ref g31, .ref g32, .ref g33])), (g3, .inl (T 0, 900, .inl ft))]) rfl dX8_street_205 (fun H locs V => ?_)
                    refine lv_aload_n hx hb dX8_street_208 rfl (lv_at hl 0 rfl) ?_
                    refine g_get hC V (ci := 8) uwX8 2 rfl rfl 11 (by decide) w_923 rfl rfl dX8_street_209 ?_
                    refine lv_if_eq (tgt := 223) hx hb dX8_street_212 (by decide) (fun c_32 => ?_) (fun c_32 => ?_)
                    · skip
                      have hF2 := hfr c_32
                      have hn10 := hF2.1
                      refine lv_iconst (v := (nI 0)) hx hb dX8_street_223 (by decide +kernel) ?_
                      refine lv_istore_n (lv' := [(2, .int (nI 0)), (0, .ref o), (1, .int (nI jn))]) hx hb dX8_street_224 rfl hl (by decide) rfl (fun ls hl => ?_)
                      have L_33 : ∀ (fu : Nat) (k225 : Nat) (f225 : Nat → Int32), k225 ≤ 94 → (∀ j, j < k225 → f225 j = f77 j) → (∀ j, 94 ≤ j → f225 j = fa j) → 94 - k225 < fu → ∀ (H : Heap) (locs : List Loc) (ls : Array Slot), gW D T A s [(g1, .inl (T 0, 282, .inl f225)), (g4, .inl (T 0, 94, .inl f77)), (o, .inr (8, [.int (nI 0), .ref g1, .ref g2, .ref g3, .ref g4, .int (nI 0), .int (nI aq), .int (nI bq), .int (nI jn), .int kv, .int nv, .int wv, .int wav, .int wv, .int wav, .ref g15, .int w16, .ref g17, .int w18, .int w19, .ref g20, .int w21, .ref g22, .ref g23, .ref g24, .int w25, .int w26, .int w27, .ref g28, .ref g29, .int w30, .ref g31, .ref g32, .ref g33])), (g3, .inl (T 0, 900, .inl ft))] H locs → lv_has ls 3 [(2, .int (nI k225)), (0, .ref o), (1, .int (nI jn))] → W p l e (rmD 9 0 0) s m args below meth c H locs 0 0 (MQ below (gQ D A (q_m_street T n o n_ w0 g1 g2 g3 g4 tp w6 w7 w8 w9 w10 w11 w12 w13 w14 g15 w16 g17 w18 w19 g20 w21 g22 g23 g24 w25 w26 w27 g28 g29 w30 g31 g32 g33 fa ft ff)) args s 0 0 A) (F0 m 225 ls []) := by
                        intro fu_225
                        induction fu_225 with
                        | zero => intro k225 f225 hk225 h225a h225c hmu; exact absurd hmu (Nat.not_lt_zero _)
                        | succ fu_225 ih_225 =>
                          intro k225 f225 hk225 h225a h225c hmu_225 H locs ls V hl
                          refine lv_iload_n hx hb dX8_street_225 rfl (lv_at hl 0 rfl) ?_
                          refine lv_bipush (v := (nI 94)) hx hb dX8_street_226 (by decide +kernel) ?_
                          refine lv_icmp_ge (tgt := 249) hx hb dX8_street_228 (by decide) (fun c_34 => ?_) (fun c_34 => ?_)
                          · skip
                            have c_34 := b_le (by omega) (by omega) c_34
                            refine lv_iconst (v := (nI 0)) hx hb dX8_street_249 (by decide +kernel) ?_
                            refine lv_istore_n (lv' := [(2, .int (nI 0)), (0, .ref o), (1, .int (nI jn))]) hx hb dX8_street_250 rfl hl (by decide) rfl (fun ls hl => ?_)
                            have L_35 : ∀ (fu : Nat) (k251 : Nat) (f251 : Nat → Int32), k251 ≤ nq → (∀ j, j < 84 → f251 j = f77 j) → (∀ i, i < k251 → bd (f251 (84 + i)) nq) → (∀ j, 94 ≤ j → f251 j = fa j) → nq - k251 < fu → ∀ (H : Heap) (locs : List Loc) (ls : Array Slot), gW D T A s [(g1, .inl (T 0, 282, .inl f251)), (g4, .inl (T 0, 94, .inl f77)), (o, .inr (8, [.int (nI 0), .ref g1, .ref g2, .ref g3, .ref g4, .int (nI 0), .int (nI aq), .int (nI bq), .int (nI jn), .int kv, .int nv, .int wv, .int wav, .int wv, .int wav, .ref g15, .int w16, .ref g17, .int w18, .int w19, .ref g20, .int w21, .ref g22, .ref g23, .ref g24, .int w25, .int w26, .int w27, .ref g28, .ref g29, .int w30, .ref g31, .ref g32, .ref g33])), (g3, .inl (T 0, 900, .inl ft))] H locs → lv_has ls 3 [(2, .int (nI k251)), (0, .ref o), (1, .int (nI jn))] → W p l e (rmD 9 0 0) s m args below meth c H locs 0 0 (MQ below (gQ D A (q_m_street T n o n_ w0 g1 g2 g3 g4 tp w6 w7 w8 w9 w10 w11 w12 w13 w14 g15 w16 g17 w18 w19 g20 w21 g22 g23 g24 w25 w26 w27 g28 g29 w30 g31 g32 g33 fa ft ff)) args s 0 0 A) (F0 m 251 ls []) := by
                              intro fu_251
                              induction fu_251 with
                              | zero => intro k251 f251 hk251 h251a h251b h251c hmu; exact absurd hmu (Nat.not_lt_zero _)
                              | succ fu_251 ih_251 =>
                                intro k251 f251 hk251 h251a h251b h251c hmu_251 H locs ls V hl
                                refine lv_iload_n hx hb dX8_street_251 rfl (lv_at hl 0 rfl) ?_
                                refine lv_aload_n hx hb dX8_street_252 rfl (lv_at hl 1 rfl) ?_
                                refine g_get hC V (ci := 8) uwX8 2 rfl rfl 1 (by decide) w_913 rfl rfl dX8_street_253 ?_
                                refine lv_iconst (v := (nI 0)) hx hb dX8_street_256 (by decide +kernel) ?_
                                refine g_iald hC V 0 rfl (vp_in_nI (by decide) (by decide)) (v := (nI nq)) (by rw [nI_clamp (by decide)]; first | rfl | exact ((h251a 0 (by decide)).trans hF2.2.1) | exact h_a.2.1) dX8_street_257 ?_
                                refine lv_icmp_ge (tgt := 312) hx hb dX8_street_258 (by decide) (fun c_36 => ?_) (fun c_36 => ?_)
                                · skip
                                  have c_36 := b_le (by omega) (by omega) c_36
                                  refine lv_aload_n hx hb dX8_street_312 rfl (lv_at hl 1 rfl) ?_
                                  refine g_get hC V (ci := 8) uwX8 2 rfl rfl 1 (by decide) w_913 rfl rfl dX8_street_313 ?_
                                  refine lv_iconst (v := (nI 3)) hx hb dX8_street_316 (by decide +kernel) ?_
                                  refine g_iald hC V 0 rfl (vp_in_nI (by decide) (by decide)) (v := (f251 3)) (congrArg _ (nI_clamp (by decide))) dX8_street_317 ?_
                                  have V := V.sub (ws' := [(o, .inr (8, [.int (nI 0), .ref g1, .ref g2, .ref g3, .ref g4, .int (nI 0), .int (nI aq), .int (nI bq), .int (nI jn), .int kv, .int nv, .int wv, .int wav, .int wv, .int wav, .ref g15, .int w16, .ref g17, .int w18, .int w19, .ref g20, .int w21, .ref g22, .ref g23, .ref g24, .int w25, .int w26, .int w27, .ref g28, .ref g29, .int w30, .ref g31, .ref g32, .ref g33])), (g1, .inl (T 0, 282, .inl f251)), (g3, .inl (T 0, 900, .inl ft)), (g4, .inl (T 0, 94, .inl f77))]) [2, 0, 3, 1] rfl rfl
                                  exact g_iret (Qr := (q_m_street T n o n_ w0 g1 g2 g3 g4 tp w6 w7 w8 w9 w10 w11 w12 w13 w14 g15 w16 g17 w18 w19 g20 w21 g22 g23 g24 w25 w26 w27 g28 g29 w30 g31 g32 g33 fa ft ff)) hC V ⟨(Nat.le_of_ble_eq_true rfl), (Nat.le_of_ble_eq_true rfl)⟩ ⟨(f251 3), 0, (nI aq), (nI bq), (nI jn), kv, nv, wv, wav, wv, wav, f251, f77, nq, rfl, rfl, (sr_2 (by assumption) (by assumption)), (so_mi hF2 h251a (fun i hi => h251b i (by omega))), h251c⟩ dX8_street_318
                                · skip
                                  have c_36 := b_nle (by omega) (by omega) c_36
                                  refine lv_aload_n hx hb dX8_street_261 rfl (lv_at hl 1 rfl) ?_
                                  refine g_get hC V (ci := 8) uwX8 2 rfl rfl 1 (by decide) w_913 rfl rfl dX8_street_262 ?_
                                  refine lv_bipush (v := (nI 84)) hx hb dX8_street_265 (by decide +kernel) ?_
                                  refine lv_iload_n hx hb dX8_street_267 rfl (lv_at hl 0 rfl) ?_
                                  refine lv_iadd hx hb dX8_street_268 ?_
                                  refine g_vi (y := (nI (84 + k251))) (nI_add _ _) ?_
                                  refine lv_aload_n hx hb dX8_street_269 rfl (lv_at hl 1 rfl) ?_
                                  refine g_get hC V (ci := 8) uwX8 2 rfl rfl 4 (by decide) w_916 rfl rfl dX8_street_270 ?_
                                  refine lv_bipush (v := (nI 84)) hx hb dX8_street_273 (by decide +kernel) ?_
                                  refine lv_iload_n hx hb dX8_street_275 rfl (lv_at hl 0 rfl) ?_
                                  refine lv_iadd hx hb dX8_street_276 ?_
                                  refine g_vi (y := (nI (84 + k251))) (nI_add _ _) ?_
                                  obtain ⟨j_37, hj_37, ej_37⟩ := bd_ex (fr_to hF2 (i := k251) (by omega))
                                  refine g_iald hC V 1 rfl (vp_in_nI (by omega) (by omega)) (v := (nI j_37)) (by rw [nI_clamp (by omega)]; exact ej_37) dX8_street_277 ?_
                                  refine lv_if_le (tgt := 295) hx hb dX8_street_278 (by decide) (fun c_38 => ?_) (fun c_38 => ?_)
                                  · skip
                                    rw [show (0 : Int32) = nI 0 from rfl] at c_38
                                    have c_38 := b_le (by omega) (by omega) c_38
                                    refine lv_iload_n hx hb dX8_street_295 rfl (lv_at hl 0 rfl) ?_
                                    refine lv_iconst (v := (nI 1)) hx hb dX8_street_296 (by decide +kernel) ?_
                                    refine lv_iadd hx hb dX8_street_297 ?_
                                    refine g_vi (y := (nI (k251 + 1))) (nI_add _ _) ?_
                                    refine lv_aload_n hx hb dX8_street_298 rfl (lv_at hl 1 rfl) ?_
                                    refine g_get hC V (ci := 8) uwX8 2 rfl rfl 1 (by decide) w_913 rfl rfl dX8_street_299 ?_
                                    refine lv_iconst (v := (nI 0)) hx hb dX8_street_302 (by decide +kernel) ?_
                                    refine g_iald hC V 0 rfl (vp_in_nI (by decide) (by decide)) (v := (nI nq)) (by rw [nI_clamp (by decide)]; first | rfl | exact ((h251a 0 (by decide)).trans hF2.2.1) | exact h_a.2.1) dX8_street_303 ?_
                                    refine lv_irem hx hb dX8_street_304 (nI_ne0 (by omega) (by omega)) ?_
                                    refine g_vi (y := (nI ((k251 + 1) % nq))) (nI_rem (by omega) (by omega)) ?_
                                    refine g_iast hC V 0 rfl (vp_in_nI (by omega) (by omega)) (f' := (upd f251 (84 + k251) (nI ((k251 + 1) % nq)))) (by rw [nI_clamp (by omega)]) (ws' := [(g1, .inl (T 0, 282, .inl (upd f251 (84 + k251) (nI ((k251 + 1) % nq))))), (g4, .inl (T 0, 94, .inl f77)), (o, .inr (8, [.int (nI 0), .ref g1, .ref g2, .ref g3, .ref g4, .int (nI 0), .int (nI aq), .int (nI bq), .int (nI jn), .int kv, .int nv, .int wv, .int wav, .int wv, .int wav, .ref g15, .int w16, .ref g17, .int w18, .int w19, .ref g20, .int w21, .ref g22, .ref g23, .ref g24, .int w25, .int w26, .int w27, .ref g28, .ref g29, .int w30, .ref g31, .ref g32, .ref g33])), (g3, .inl (T 0, 900, .inl ft))]) rfl dX8_street_305 (fun H locs V => ?_)
                                    refine lv_iinc (v := (nI (k251 + 1))) (lv' := [(2, .int (nI (k251 + 1))), (0, .ref o), (1, .int (nI jn))]) hx hb dX8_street_306 hl (k := 0) rfl (nI_1 _) (by decide) rfl (fun ls hl => ?_)
                                    refine lv_goto (tgt := 251) hx hb dX8_street_309 (by decide) ?_
                                    exact ih_251 (k251 + 1) (upd f251 (84 + k251) (nI ((k251 + 1) % nq))) (by omega) (fun j hj => (up_other (by omega)).trans (h251a j hj)) (so_st h251b (by first | exact bd_nI (by omega) | exact bd_nI (Nat.mod_lt _ (by omega)))) (fun j hj => (up_other (by omega)).trans (h251c j hj)) (by omega) _ _ _ V (lv_sub hl [0, 1, 2] rfl)
                                  · skip
                                    rw [show (0 : Int32) = nI 0 from rfl] at c_38
                                    have c_38 := b_nle (by omega) (by omega) c_38
                                    refine lv_aload_n hx hb dX8_street_281 rfl (lv_at hl 1 rfl) ?_
                                    refine g_get hC V (ci := 8) uwX8 2 rfl rfl 4 (by decide) w_916 rfl rfl dX8_street_282 ?_
                                    refine lv_bipush (v := (nI 84)) hx hb dX8_street_285 (by decide +kernel) ?_
                                    refine lv_iload_n hx hb dX8_street_287 rfl (lv_at hl 0 rfl) ?_
                                    refine lv_iadd hx hb dX8_street_288 ?_
                                    refine g_vi (y := (nI (84 + k251))) (nI_add _ _) ?_
                                    refine g_iald hC V 1 rfl (vp_in_nI (by omega) (by omega)) (v := (nI j_37)) (by rw [nI_clamp (by omega)]; exact ej_37) dX8_street_289 ?_
                                    refine lv_iconst (v := (nI 1)) hx hb dX8_street_290 (by decide +kernel) ?_
                                    refine lv_isub hx hb dX8_street_291 ?_
                                    refine g_vi (y := (nI (j_37 - 1))) (nI_sub (by omega)) ?_
                                    refine lv_goto (tgt := 305) hx hb dX8_street_292 (by decide) ?_
                                    refine g_iast hC V 0 rfl (vp_in_nI (by omega) (by omega)) (f' := (upd f251 (84 + k251) (nI (j_37 - 1)))) (by rw [nI_clamp (by omega)]) (ws' := [(g1, .inl (T 0, 282, .inl (upd f251 (84 + k251) (nI (j_37 - 1))))), (g4, .inl (T 0, 94, .inl f77)), (o, .inr (8, [.int (nI 0), .ref g1, .ref g2, .ref g3, .ref g4, .int (nI 0), .int (nI aq), .int (nI bq), .int (nI jn), .int kv, .int nv, .int wv, .int wav, .int wv, .int wav, .ref g15, .int w16, .ref g17, .int w18, .int w19, .ref g20, .int w21, .ref g22, .ref g23, .ref g24, .int w25, .int w26, .int w27, .ref g28, .ref g29, .int w30, .ref g31, .ref g32, .ref g33])), (g3, .inl (T 0, 900, .inl ft))]) rfl dX8_street_305 (fun H locs V => ?_)
                                    refine lv_iinc (v := (nI (k251 + 1))) (lv' := [(2, .int (nI (k251 + 1))), (0, .ref o), (1, .int (nI jn))]) hx hb dX8_street_306 hl (k := 0) rfl (nI_1 _) (by decide) rfl (fun ls hl => ?_)
                                    refine lv_goto (tgt := 251) hx hb dX8_street_309 (by decide) ?_
                                    exact ih_251 (k251 + 1) (upd f251 (84 + k251) (nI (j_37 - 1))) (by omega) (fun j hj => (up_other (by omega)).trans (h251a j hj)) (so_st h251b (by first | exact bd_nI (by omega) | exact bd_nI (Nat.mod_lt _ (by omega)))) (fun j hj => (up_other (by omega)).trans (h251c j hj)) (by omega) _ _ _ V (lv_sub hl [0, 1, 2] rfl)
                            exact L_35 _ 0 f225 (by omega) (fun j hj => h225a j (by omega)) (fun i h => absurd h (Nat.not_lt_zero _)) h225c (Nat.lt_succ_self _) _ _ _ V (lv_sub hl [0, 1, 2] rfl)
                          · skip
                            have c_34 := b_nle (by omega) (by omega) c_34
                            refine lv_aload_n hx hb dX8_street_231 rfl (lv_at hl 1 rfl) ?_
                            refine g_get hC V (ci := 8) uwX8 2 rfl rfl 1 (by decide) w_913 rfl rfl dX8_street_232 ?_
                            refine lv_iload_n hx hb dX8_street_235 rfl (lv_at hl 0 rfl) ?_
                            refine lv_aload_n hx hb dX8_street_236 rfl (lv_at hl 1 rfl) ?_
                            refine g_get hC V (ci := 8) uwX8 2 rfl rfl 4 (by decide) w_916 rfl rfl dX8_street_237 ?_
                            refine lv_iload_n hx hb dX8_street_240 rfl (lv_at hl 0 rfl) ?_
                            refine g_iald hC V 1 rfl (vp_in_nI (by omega) (by omega)) (v := (f77 k225)) (congrArg _ (nI_clamp (by omega))) dX8_street_241 ?_
                            refine g_iast hC V 0 rfl (vp_in_nI (by omega) (by omega)) (f' := (upd f225 k225 (f77 k225))) (by rw [nI_clamp (by omega)]) (ws' := [(g1, .inl (T 0, 282, .inl (upd f225 k225 (f77 k225)))), (g4, .inl (T 0, 94, .inl f77)), (o, .inr (8, [.int (nI 0), .ref g1, .ref g2, .ref g3, .ref g4, .int (nI 0), .int (nI aq), .int (nI bq), .int (nI jn), .int kv, .int nv, .int wv, .int wav, .int wv, .int wav, .ref g15, .int w16, .ref g17, .int w18, .int w19, .ref g20, .int w21, .ref g22, .ref g23, .ref g24, .int w25, .int w26, .int w27, .ref g28, .ref g29, .int w30, .ref g31, .ref g32, .ref g33])), (g3, .inl (T 0, 900, .inl ft))]) rfl dX8_street_242 (fun H locs V => ?_)
                            refine lv_iinc (v := (nI (k225 + 1))) (lv' := [(2, .int (nI (k225 + 1))), (0, .ref o), (1, .int (nI jn))]) hx hb dX8_street_243 hl (k := 0) rfl (nI_1 _) (by decide) rfl (fun ls hl => ?_)
                            refine lv_goto (tgt := 225) hx hb dX8_street_246 (by decide) ?_
                            exact ih_225 (k225 + 1) (upd f225 k225 (f77 k225)) (by omega) (up_one (p := fun j y => y = f77 j) h225a rfl) (fun j hj => (up_other (by omega)).trans (h225c j hj)) (by omega) _ _ _ V (lv_sub hl [0, 1, 2] rfl)
                      exact L_33 _ 0 fa (by omega) (fun i h => absurd h (Nat.not_lt_zero _)) (fun _ _ => rfl) (Nat.lt_succ_self _) _ _ _ V (lv_sub hl [0, 1, 2] rfl)
                    · skip
                      refine lv_bipush (v := (-30)) hx hb dX8_street_215 (by decide +kernel) ?_
                      refine lv_aload_n hx hb dX8_street_217 rfl (lv_at hl 0 rfl) ?_
                      refine g_get hC V (ci := 8) uwX8 2 rfl rfl 11 (by decide) w_923 rfl rfl dX8_street_218 ?_
                      refine lv_isub hx hb dX8_street_221 ?_
                      have V := V.sub (ws' := [(o, .inr (8, [.int (nI 0), .ref g1, .ref g2, .ref g3, .ref g4, .int (nI 0), .int (nI aq), .int (nI bq), .int (nI jn), .int kv, .int nv, .int wv, .int wav, .int wv, .int wav, .ref g15, .int w16, .ref g17, .int w18, .int w19, .ref g20, .int w21, .ref g22, .ref g23, .ref g24, .int w25, .int w26, .int w27, .ref g28, .ref g29, .int w30, .ref g31, .ref g32, .ref g33])), (g1, .inl (T 0, 282, .inl fa)), (g3, .inl (T 0, 900, .inl ft)), (g4, .inl (T 0, 94, .inl f77))]) [2, 0, 3, 1] rfl rfl
                      exact g_iret (Qr := (q_m_street T n o n_ w0 g1 g2 g3 g4 tp w6 w7 w8 w9 w10 w11 w12 w13 w14 g15 w16 g17 w18 w19 g20 w21 g22 g23 g24 w25 w26 w27 g28 g29 w30 g31 g32 g33 fa ft ff)) hC V ⟨(Nat.le_of_ble_eq_true rfl), (Nat.le_of_ble_eq_true rfl)⟩ ⟨((-30) - wv), 0, (nI aq), (nI bq), (nI jn), kv, nv, wv, wav, wv, wav, fa, f77, n, rfl, rfl, (sr_2 (by assumption) (by assumption)), h_a, (fun _ _ => rfl)⟩ dX8_street_222
                  · skip
                    refine lv_iconst (v := (-1)) hx hb dX8_street_197 (by decide +kernel) ?_
                    refine lv_goto (tgt := 205) hx hb dX8_street_198 (by decide) ?_
                    refine g_put hC V (ci := 8) uwX8 tyX8 tyX8_ok nmX8 2 rfl rfl 14 (by decide) w_926 rfl rfl rfl rfl (Nat.le_of_ble_eq_true rfl) (ws' := [(g1, .inl (T 0, 282, .inl fa)), (g4, .inl (T 0, 94, .inl f77)), (o, .inr (8, [.int (nI 0), .ref g1, .ref g2, .ref g3, .ref g4, .int (nI 0), .int (nI aq), .int (nI bq), .int (nI jn), .int kv, .int nv, .int wv, .int wav, .int wv, .int (-1), .ref g15, .int w16, .ref g17, .int w18, .int w19, .ref g20, .int w21, .ref g22, .ref g23, .ref g24, .int w25, .int w26, .int w27, .ref g28, .ref g29, .int w30, .ref g31, .ref g32, .ref g33])), (g3, .inl (T 0, 900, .inl ft))]) rfl dX8_street_205 (fun H locs V => ?_)
                    refine lv_aload_n hx hb dX8_street_208 rfl (lv_at hl 0 rfl) ?_
                    refine g_get hC V (ci := 8) uwX8 2 rfl rfl 11 (by decide) w_923 rfl rfl dX8_street_209 ?_
                    refine lv_if_eq (tgt := 223) hx hb dX8_street_212 (by decide) (fun c_39 => ?_) (fun c_39 => ?_)
                    · skip
                      have hF2 := hfr c_39
                      have hn10 := hF2.1
                      refine lv_iconst (v := (nI 0)) hx hb dX8_street_223 (by decide +kernel) ?_
                      refine lv_istore_n (lv' := [(2, .int (nI 0)), (0, .ref o), (1, .int (nI jn))]) hx hb dX8_street_224 rfl hl (by decide) rfl (fun ls hl => ?_)
                      have L_40 : ∀ (fu : Nat) (k225 : Nat) (f225 : Nat → Int32), k225 ≤ 94 → (∀ j, j < k225 → f225 j = f77 j) → (∀ j, 94 ≤ j → f225 j = fa j) → 94 - k225 < fu → ∀ (H : Heap) (locs : List Loc) (ls : Array Slot), gW D T A s [(g1, .inl (T 0, 282, .inl f225)), (g4, .inl (T 0, 94, .inl f77)), (o, .inr (8, [.int (nI 0), .ref g1, .ref g2, .ref g3, .ref g4, .int (nI 0), .int (nI aq), .int (nI bq), .int (nI jn), .int kv, .int nv, .int wv, .int wav, .int wv, .int (-1), .ref g15, .int w16, .ref g17, .int w18, .int w19, .ref g20, .int w21, .ref g22, .ref g23, .ref g24, .int w25, .int w26, .int w27, .ref g28, .ref g29, .int w30, .ref g31, .ref g32, .ref g33])), (g3, .inl (T 0, 900, .inl ft))] H locs → lv_has ls 3 [(2, .int (nI k225)), (0, .ref o), (1, .int (nI jn))] → W p l e (rmD 9 0 0) s m args below meth c H locs 0 0 (MQ below (gQ D A (q_m_street T n o n_ w0 g1 g2 g3 g4 tp w6 w7 w8 w9 w10 w11 w12 w13 w14 g15 w16 g17 w18 w19 g20 w21 g22 g23 g24 w25 w26 w27 g28 g29 w30 g31 g32 g33 fa ft ff)) args s 0 0 A) (F0 m 225 ls []) := by
                        intro fu_225
                        induction fu_225 with
                        | zero => intro k225 f225 hk225 h225a h225c hmu; exact absurd hmu (Nat.not_lt_zero _)
                        | succ fu_225 ih_225 =>
                          intro k225 f225 hk225 h225a h225c hmu_225 H locs ls V hl
                          refine lv_iload_n hx hb dX8_street_225 rfl (lv_at hl 0 rfl) ?_
                          refine lv_bipush (v := (nI 94)) hx hb dX8_street_226 (by decide +kernel) ?_
                          refine lv_icmp_ge (tgt := 249) hx hb dX8_street_228 (by decide) (fun c_41 => ?_) (fun c_41 => ?_)
                          · skip
                            have c_41 := b_le (by omega) (by omega) c_41
                            refine lv_iconst (v := (nI 0)) hx hb dX8_street_249 (by decide +kernel) ?_
                            refine lv_istore_n (lv' := [(2, .int (nI 0)), (0, .ref o), (1, .int (nI jn))]) hx hb dX8_street_250 rfl hl (by decide) rfl (fun ls hl => ?_)
                            have L_42 : ∀ (fu : Nat) (k251 : Nat) (f251 : Nat → Int32), k251 ≤ nq → (∀ j, j < 84 → f251 j = f77 j) → (∀ i, i < k251 → bd (f251 (84 + i)) nq) → (∀ j, 94 ≤ j → f251 j = fa j) → nq - k251 < fu → ∀ (H : Heap) (locs : List Loc) (ls : Array Slot), gW D T A s [(g1, .inl (T 0, 282, .inl f251)), (g4, .inl (T 0, 94, .inl f77)), (o, .inr (8, [.int (nI 0), .ref g1, .ref g2, .ref g3, .ref g4, .int (nI 0), .int (nI aq), .int (nI bq), .int (nI jn), .int kv, .int nv, .int wv, .int wav, .int wv, .int (-1), .ref g15, .int w16, .ref g17, .int w18, .int w19, .ref g20, .int w21, .ref g22, .ref g23, .ref g24, .int w25, .int w26, .int w27, .ref g28, .ref g29, .int w30, .ref g31, .ref g32, .ref g33])), (g3, .inl (T 0, 900, .inl ft))] H locs → lv_has ls 3 [(2, .int (nI k251)), (0, .ref o), (1, .int (nI jn))] → W p l e (rmD 9 0 0) s m args below meth c H locs 0 0 (MQ below (gQ D A (q_m_street T n o n_ w0 g1 g2 g3 g4 tp w6 w7 w8 w9 w10 w11 w12 w13 w14 g15 w16 g17 w18 w19 g20 w21 g22 g23 g24 w25 w26 w27 g28 g29 w30 g31 g32 g33 fa ft ff)) args s 0 0 A) (F0 m 251 ls []) := by
                              intro fu_251
                              induction fu_251 with
                              | zero => intro k251 f251 hk251 h251a h251b h251c hmu; exact absurd hmu (Nat.not_lt_zero _)
                              | succ fu_251 ih_251 =>
                                intro k251 f251 hk251 h251a h251b h251c hmu_251 H locs ls V hl
                                refine lv_iload_n hx hb dX8_street_251 rfl (lv_at hl 0 rfl) ?_
                                refine lv_aload_n hx hb dX8_street_252 rfl (lv_at hl 1 rfl) ?_
                                refine g_get hC V (ci := 8) uwX8 2 rfl rfl 1 (by decide) w_913 rfl rfl dX8_street_253 ?_
                                refine lv_iconst (v := (nI 0)) hx hb dX8_street_256 (by decide +kernel) ?_
                                refine g_iald hC V 0 rfl (vp_in_nI (by decide) (by decide)) (v := (nI nq)) (by rw [nI_clamp (by decide)]; first | rfl | exact ((h251a 0 (by decide)).trans hF2.2.1) | exact h_a.2.1) dX8_street_257 ?_
                                refine lv_icmp_ge (tgt := 312) hx hb dX8_street_258 (by decide) (fun c_43 => ?_) (fun c_43 => ?_)
                                · skip
                                  have c_43 := b_le (by omega) (by omega) c_43
                                  refine lv_aload_n hx hb dX8_street_312 rfl (lv_at hl 1 rfl) ?_
                                  refine g_get hC V (ci := 8) uwX8 2 rfl rfl 1 (by decide) w_913 rfl rfl dX8_street_313 ?_
                                  refine lv_iconst (v := (nI 3)) hx hb dX8_street_316 (by decide +kernel) ?_
                                  refine g_iald hC V 0 rfl (vp_in_nI (by decide) (by decide)) (v := (f251 3)) (congrArg _ (nI_clamp (by decide))) dX8_street_317 ?_
                                  have V := V.sub (ws' := [(o, .inr (8, [.int (nI 0), .ref g1, .ref g2, .ref g3, .ref g4, .int (nI 0), .int (nI aq), .int (nI bq), .int (nI jn), .int kv, .int nv, .int wv, .int wav, .int wv, .int (-1), .ref g15, .int w16, .ref g17, .int w18, .int w19, .ref g20, .int w21, .ref g22, .ref g23, .ref g24, .int w25, .int w26, .int w27, .ref g28, .ref g29, .int w30, .ref g31, .ref g32, .ref g33])), (g1, .inl (T 0, 282, .inl f251)), (g3, .inl (T 0, 900, .inl ft)), (g4, .inl (T 0, 94, .inl f77))]) [2, 0, 3, 1] rfl rfl
                                  exact g_iret (Qr := (q_m_street T n o n_ w0 g1 g2 g3 g4 tp w6 w7 w8 w9 w10 w11 w12 w13 w14 g15 w16 g17 w18 w19 g20 w21 g22 g23 g24 w25 w26 w27 g28 g29 w30 g31 g32 g33 fa ft ff)) hC V ⟨(Nat.le_of_ble_eq_true rfl), (Nat.le_of_ble_eq_true rfl)⟩ ⟨(f251 3), 0, (nI aq), (nI bq), (nI jn), kv, nv, wv, wav, wv, (-1), f251, f77, nq, rfl, rfl, (sr_2 (by assumption) (by assumption)), (so_mi hF2 h251a (fun i hi => h251b i (by omega))), h251c⟩ dX8_street_318
                                · skip
                                  have c_43 := b_nle (by omega) (by omega) c_43
                                  refine lv_aload_n hx hb dX8_street_261 rfl (lv_at hl 1 rfl) ?_
                                  refine g_get hC V (ci := 8) uwX8 2 rfl rfl 1 (by decide) w_913 rfl rfl dX8_street_262 ?_
                                  refine lv_bipush (v := (nI 84)) hx hb dX8_street_265 (by decide +kernel) ?_
                                  refine lv_iload_n hx hb dX8_street_267 rfl (lv_at hl 0 rfl) ?_
                                  refine lv_iadd hx hb dX8_street_268 ?_
                                  refine g_vi (y := (nI (84 + k251))) (nI_add _ _) ?_
                                  refine lv_aload_n hx hb dX8_street_269 rfl (lv_at hl 1 rfl) ?_
                                  refine g_get hC V (ci := 8) uwX8 2 rfl rfl 4 (by decide) w_916 rfl rfl dX8_street_270 ?_
                                  refine lv_bipush (v := (nI 84)) hx hb dX8_street_273 (by decide +kernel) ?_
                                  refine lv_iload_n hx hb dX8_street_275 rfl (lv_at hl 0 rfl) ?_
                                  refine lv_iadd hx hb dX8_street_276 ?_
                                  refine g_vi (y := (nI (84 + k251))) (nI_add _ _) ?_
                                  obtain ⟨j_44, hj_44, ej_44⟩ := bd_ex (fr_to hF2 (i := k251) (by omega))
                                  refine g_iald hC V 1 rfl (vp_in_nI (by omega) (by omega)) (v := (nI j_44)) (by rw [nI_clamp (by omega)]; exact ej_44) dX8_street_277 ?_
                                  refine lv_if_le (tgt := 295) hx hb dX8_street_278 (by decide) (fun c_45 => ?_) (fun c_45 => ?_)
                                  · skip
                                    rw [show (0 : Int32) = nI 0 from rfl] at c_45
                                    have c_45 := b_le (by omega) (by omega) c_45
                                    refine lv_iload_n hx hb dX8_street_295 rfl (lv_at hl 0 rfl) ?_
                                    refine lv_iconst (v := (nI 1)) hx hb dX8_street_296 (by decide +kernel) ?_
                                    refine lv_iadd hx hb dX8_street_297 ?_
                                    refine g_vi (y := (nI (k251 + 1))) (nI_add _ _) ?_
                                    refine lv_aload_n hx hb dX8_street_298 rfl (lv_at hl 1 rfl) ?_
                                    refine g_get hC V (ci := 8) uwX8 2 rfl rfl 1 (by decide) w_913 rfl rfl dX8_street_299 ?_
                                    refine lv_iconst (v := (nI 0)) hx hb dX8_street_302 (by decide +kernel) ?_
                                    refine g_iald hC V 0 rfl (vp_in_nI (by decide) (by decide)) (v := (nI nq)) (by rw [nI_clamp (by decide)]; first | rfl | exact ((h251a 0 (by decide)).trans hF2.2.1) | exact h_a.2.1) dX8_street_303 ?_
                                    refine lv_irem hx hb dX8_street_304 (nI_ne0 (by omega) (by omega)) ?_
                                    refine g_vi (y := (nI ((k251 + 1) % nq))) (nI_rem (by omega) (by omega)) ?_
                                    refine g_iast hC V 0 rfl (vp_in_nI (by omega) (by omega)) (f' := (upd f251 (84 + k251) (nI ((k251 + 1) % nq)))) (by rw [nI_clamp (by omega)]) (ws' := [(g1, .inl (T 0, 282, .inl (upd f251 (84 + k251) (nI ((k251 + 1) % nq))))), (g4, .inl (T 0, 94, .inl f77)), (o, .inr (8, [.int (nI 0), .ref g1, .ref g2, .ref g3, .ref g4, .int (nI 0), .int (nI aq), .int (nI bq), .int (nI jn), .int kv, .int nv, .int wv, .int wav, .int wv, .int (-1), .ref g15, .int w16, .ref g17, .int w18, .int w19, .ref g20, .int w21, .ref g22, .ref g23, .ref g24, .int w25, .int w26, .int w27, .ref g28, .ref g29, .int w30, .ref g31, .ref g32, .ref g33])), (g3, .inl (T 0, 900, .inl ft))]) rfl dX8_street_305 (fun H locs V => ?_)
                                    refine lv_iinc (v := (nI (k251 + 1))) (lv' := [(2, .int (nI (k251 + 1))), (0, .ref o), (1, .int (nI jn))]) hx hb dX8_street_306 hl (k := 0) rfl (nI_1 _) (by decide) rfl (fun ls hl => ?_)
                                    refine lv_goto (tgt := 251) hx hb dX8_street_309 (by decide) ?_
                                    exact ih_251 (k251 + 1) (upd f251 (84 + k251) (nI ((k251 + 1) % nq))) (by omega) (fun j hj => (up_other (by omega)).trans (h251a j hj)) (so_st h251b (by first | exact bd_nI (by omega) | exact bd_nI (Nat.mod_lt _ (by omega)))) (fun j hj => (up_other (by omega)).trans (h251c j hj)) (by omega) _ _ _ V (lv_sub hl [0, 1, 2] rfl)
                                  · skip
                                    rw [show (0 : Int32) = nI 0 from rfl] at c_45
                                    have c_45 := b_nle (by omega) (by omega) c_45
                                    refine lv_aload_n hx hb dX8_street_281 rfl (lv_at hl 1 rfl) ?_
                                    refine g_get hC V (ci := 8) uwX8 2 rfl rfl 4 (by decide) w_916 rfl rfl dX8_street_282 ?_
                                    refine lv_bipush (v := (nI 84)) hx hb dX8_street_285 (by decide +kernel) ?_
                                    refine lv_iload_n hx hb dX8_street_287 rfl (lv_at hl 0 rfl) ?_
                                    refine lv_iadd hx hb dX8_street_288 ?_
                                    refine g_vi (y := (nI (84 + k251))) (nI_add _ _) ?_
                                    refine g_iald hC V 1 rfl (vp_in_nI (by omega) (by omega)) (v := (nI j_44)) (by rw [nI_clamp (by omega)]; exact ej_44) dX8_street_289 ?_
                                    refine lv_iconst (v := (nI 1)) hx hb dX8_street_290 (by decide +kernel) ?_
                                    refine lv_isub hx hb dX8_street_291 ?_
                                    refine g_vi (y := (nI (j_44 - 1))) (nI_sub (by omega)) ?_
                                    refine lv_goto (tgt := 305) hx hb dX8_street_292 (by decide) ?_
                                    refine g_iast hC V 0 rfl (vp_in_nI (by omega) (by omega)) (f' := (upd f251 (84 + k251) (nI (j_44 - 1)))) (by rw [nI_clamp (by omega)]) (ws' := [(g1, .inl (T 0, 282, .inl (upd f251 (84 + k251) (nI (j_44 - 1))))), (g4, .inl (T 0, 94, .inl f77)), (o, .inr (8, [.int (nI 0), .ref g1, .ref g2, .ref g3, .ref g4, .int (nI 0), .int (nI aq), .int (nI bq), .int (nI jn), .int kv, .int nv, .int wv, .int wav, .int wv, .int (-1), .ref g15, .int w16, .ref g17, .int w18, .int w19, .ref g20, .int w21, .ref g22, .ref g23, .ref g24, .int w25, .int w26, .int w27, .ref g28, .ref g29, .int w30, .ref g31, .ref g32, .ref g33])), (g3, .inl (T 0, 900, .inl ft))]) rfl dX8_street_305 (fun H locs V => ?_)
                                    refine lv_iinc (v := (nI (k251 + 1))) (lv' := [(2, .int (nI (k251 + 1))), (0, .ref o), (1, .int (nI jn))]) hx hb dX8_street_306 hl (k := 0) rfl (nI_1 _) (by decide) rfl (fun ls hl => ?_)
                                    refine lv_goto (tgt := 251) hx hb dX8_street_309 (by decide) ?_
                                    exact ih_251 (k251 + 1) (upd f251 (84 + k251) (nI (j_44 - 1))) (by omega) (fun j hj => (up_other (by omega)).trans (h251a j hj)) (so_st h251b (by first | exact bd_nI (by omega) | exact bd_nI (Nat.mod_lt _ (by omega)))) (fun j hj => (up_other (by omega)).trans (h251c j hj)) (by omega) _ _ _ V (lv_sub hl [0, 1, 2] rfl)
                            exact L_42 _ 0 f225 (by omega) (fun j hj => h225a j (by omega)) (fun i h => absurd h (Nat.not_lt_zero _)) h225c (Nat.lt_succ_self _) _ _ _ V (lv_sub hl [0, 1, 2] rfl)
                          · skip
                            have c_41 := b_nle (by omega) (by omega) c_41
                            refine lv_aload_n hx hb dX8_street_231 rfl (lv_at hl 1 rfl) ?_
                            refine g_get hC V (ci := 8) uwX8 2 rfl rfl 1 (by decide) w_913 rfl rfl dX8_street_232 ?_
                            refine lv_iload_n hx hb dX8_street_235 rfl (lv_at hl 0 rfl) ?_
                            refine lv_aload_n hx hb dX8_street_236 rfl (lv_at hl 1 rfl) ?_
                            refine g_get hC V (ci := 8) uwX8 2 rfl rfl 4 (by decide) w_916 rfl rfl dX8_street_237 ?_
                            refine lv_iload_n hx hb dX8_street_240 rfl (lv_at hl 0 rfl) ?_
                            refine g_iald hC V 1 rfl (vp_in_nI (by omega) (by omega)) (v := (f77 k225)) (congrArg _ (nI_clamp (by omega))) dX8_street_241 ?_
                            refine g_iast hC V 0 rfl (vp_in_nI (by omega) (by omega)) (f' := (upd f225 k225 (f77 k225))) (by rw [nI_clamp (by omega)]) (ws' := [(g1, .inl (T 0, 282, .inl (upd f225 k225 (f77 k225)))), (g4, .inl (T 0, 94, .inl f77)), (o, .inr (8, [.int (nI 0), .ref g1, .ref g2, .ref g3, .ref g4, .int (nI 0), .int (nI aq), .int (nI bq), .int (nI jn), .int kv, .int nv, .int wv, .int wav, .int wv, .int (-1), .ref g15, .int w16, .ref g17, .int w18, .int w19, .ref g20, .int w21, .ref g22, .ref g23, .ref g24, .int w25, .int w26, .int w27, .ref g28, .ref g29, .int w30, .ref g31, .ref g32, .ref g33])), (g3, .inl (T 0, 900, .inl ft))]) rfl dX8_street_242 (fun H locs V => ?_)
                            refine lv_iinc (v := (nI (k225 + 1))) (lv' := [(2, .int (nI (k225 + 1))), (0, .ref o), (1, .int (nI jn))]) hx hb dX8_street_243 hl (k := 0) rfl (nI_1 _) (by decide) rfl (fun ls hl => ?_)
                            refine lv_goto (tgt := 225) hx hb dX8_street_246 (by decide) ?_
                            exact ih_225 (k225 + 1) (upd f225 k225 (f77 k225)) (by omega) (up_one (p := fun j y => y = f77 j) h225a rfl) (fun j hj => (up_other (by omega)).trans (h225c j hj)) (by omega) _ _ _ V (lv_sub hl [0, 1, 2] rfl)
                      exact L_40 _ 0 fa (by omega) (fun i h => absurd h (Nat.not_lt_zero _)) (fun _ _ => rfl) (Nat.lt_succ_self _) _ _ _ V (lv_sub hl [0, 1, 2] rfl)
                    · skip
                      refine lv_bipush (v := (-30)) hx hb dX8_street_215 (by decide +kernel) ?_
                      refine lv_aload_n hx hb dX8_street_217 rfl (lv_at hl 0 rfl) ?_
                      refine g_get hC V (ci := 8) uwX8 2 rfl rfl 11 (by decide) w_923 rfl rfl dX8_street_218 ?_
                      refine lv_isub hx hb dX8_street_221 ?_
                      have V := V.sub (ws' := [(o, .inr (8, [.int (nI 0), .ref g1, .ref g2, .ref g3, .ref g4, .int (nI 0), .int (nI aq), .int (nI bq), .int (nI jn), .int kv, .int nv, .int wv, .int wav, .int wv, .int (-1), .ref g15, .int w16, .ref g17, .int w18, .int w19, .ref g20, .int w21, .ref g22, .ref g23, .ref g24, .int w25, .int w26, .int w27, .ref g28, .ref g29, .int w30, .ref g31, .ref g32, .ref g33])), (g1, .inl (T 0, 282, .inl fa)), (g3, .inl (T 0, 900, .inl ft)), (g4, .inl (T 0, 94, .inl f77))]) [2, 0, 3, 1] rfl rfl
                      exact g_iret (Qr := (q_m_street T n o n_ w0 g1 g2 g3 g4 tp w6 w7 w8 w9 w10 w11 w12 w13 w14 g15 w16 g17 w18 w19 g20 w21 g22 g23 g24 w25 w26 w27 g28 g29 w30 g31 g32 g33 fa ft ff)) hC V ⟨(Nat.le_of_ble_eq_true rfl), (Nat.le_of_ble_eq_true rfl)⟩ ⟨((-30) - wv), 0, (nI aq), (nI bq), (nI jn), kv, nv, wv, wav, wv, (-1), fa, f77, n, rfl, rfl, (sr_2 (by assumption) (by assumption)), h_a, (fun _ _ => rfl)⟩ dX8_street_222
                · skip
                  have hk11 := c_30
                  refine lv_aload_n hx hb dX8_street_93 rfl (lv_at hl 0 rfl) ?_
                  refine lv_iconst (v := (nI 0)) hx hb dX8_street_94 (by decide +kernel) ?_
                  refine g_callV (wr := [(g1, .inl (T 0, 282, .inl fa)), (g4, .inl (T 0, 94, .inl f77)), (g3, .inl (T 0, 900, .inl ft))]) (nA := 1) hC V hl.1 (m_is l D T o (nI 0) (nI 0) g1 g2 g3 g4 0 aq bq (nI jn) kv nv wv wav w13 w14 g15 w16 g17 w18 w19 g20 w21 g22 g23 g24 w25 w26 w27 g28 g29 w30 g31 g32 g33) w_1047 w_1049 w_s39 w_9 w_1050 (by decide +kernel) rfl ⟨(Nat.le_of_ble_eq_true rfl), (Nat.le_of_ble_eq_true rfl)⟩ 2 (ci := 8) rfl rfl [2] [0, 1, 3] rfl rfl rfl rfl (by decide) (Nat.le_of_ble_eq_true rfl) dX8_street_95 ⟨(Nat.le_of_ble_eq_true rfl), (Nat.le_of_ble_eq_true rfl)⟩ rfl (fun r w1 H locs hQ V => ?_)
                  rcases hQ with ⟨rfl, rfl, f_46, f_47⟩ | ⟨rfl, rfl⟩
                  · have V : gW D T A s [(g1, .inl (T 0, 282, .inl fa)), (g4, .inl (T 0, 94, .inl f77)), (g3, .inl (T 0, 900, .inl ft)), (o, .inr (8, [.int (nI 0), .ref g1, .ref g2, .ref g3, .ref g4, .int (nI 0), .int (nI aq), .int (nI bq), .int (nI jn), .int kv, .int nv, .int wv, .int wav, .int w13, .int w14, .ref g15, .int w16, .ref g17, .int w18, .int w19, .ref g20, .int w21, .ref g22, .ref g23, .ref g24, .int w25, .int w26, .int w27, .ref g28, .ref g29, .int w30, .ref g31, .ref g32, .ref g33]))] H locs := V
                    show W p l e _ s m args below meth c H locs _ _ _ (F0 m 98 ls [.int (nI 1)])
                    refine lv_if_eq (tgt := 108) hx hb dX8_street_98 (by decide) (fun c => absurd (show (nI 1) = 0 from c) (by decide +kernel)) (fun _ => ?_)
                    refine lv_aload_n hx hb dX8_street_101 rfl (lv_at hl 0 rfl) ?_
                    refine g_callV (wr := [(g1, .inl (T 0, 282, .inl fa))]) (nA := 0) hC V hl.1 (m_readSmith l D T nq o (nI 0) g1 g2 g3 g4 0 aq bq jn kv nv wv wav w13 w14 g15 w16 g17 w18 w19 g20 w21 g22 g23 g24 w25 w26 w27 g28 g29 w30 g31 g32 g33 ft f77 (by first | assumption | omega) (by first | assumption | omega) (by first | assumption | omega)) w_1051 w_1053 w_s40 w_9 w_1054 (by decide +kernel) rfl ⟨(Nat.le_of_ble_eq_true rfl), (Nat.le_of_ble_eq_true rfl)⟩ 3 (ci := 8) rfl rfl [3, 2, 1] [0] rfl rfl rfl rfl (by decide) (Nat.le_of_ble_eq_true rfl) dX8_street_102 ⟨(Nat.le_of_ble_eq_true rfl), (Nat.le_of_ble_eq_true rfl)⟩ rfl (fun r w1 H locs hQ V => ?_)
                    obtain ⟨a2_48, b2_49, k2_50, n2_51, u2_52, l2_53, n3_54, gf_55, rfl, rfl, f_56, f_57, f_58, f_59⟩ := hQ
                    have V : gW D T A s [(g1, .inl (T 0, 282, .inl fa)), (o, .inr (8, [.int (nI 0), .ref g1, .ref g2, .ref g3, .ref g4, .int (nI 0), .int (nI a2_48), .int (nI b2_49), .int (nI jn), .int k2_50, .int n2_51, .int u2_52, .int l2_53, .int w13, .int w14, .ref g15, .int w16, .ref g17, .int w18, .int w19, .ref g20, .int w21, .ref g22, .ref g23, .ref g24, .int w25, .int w26, .int w27, .ref g28, .ref g29, .int w30, .ref g31, .ref g32, .ref g33])), (g3, .inl (T 0, 900, .inl ft)), (g4, .inl (T 0, 94, .inl gf_55))] H locs := V
                    show W p l e _ s m args below meth c H locs _ _ _ (F0 m 105 ls [])
                    refine lv_goto (tgt := 154) hx hb dX8_street_105 (by decide) ?_
                    refine lv_aload_n hx hb dX8_street_154 rfl (lv_at hl 0 rfl) ?_
                    refine lv_bipush (v := (nI 10)) hx hb dX8_street_155 (by decide +kernel) ?_
                    refine g_callV (wr := [(g1, .inl (T 0, 282, .inl fa)), (g4, .inl (T 0, 94, .inl gf_55))]) (nA := 1) hC V hl.1 (m_eats l D T o (nI 10) (nI 0) g1 g2 g3 g4 0 a2_48 b2_49 jn k2_50 n2_51 u2_52 l2_53 w13 w14 g15 w16 g17 w18 w19 g20 w21 g22 g23 g24 w25 w26 w27 g28 g29 w30 g31 g32 g33 ft (by first | assumption | omega) (by first | assumption | omega)) w_1067 w_1069 w_s44 w_9 w_1070 (by decide +kernel) rfl ⟨(Nat.le_of_ble_eq_true rfl), (Nat.le_of_ble_eq_true rfl)⟩ 1 (ci := 8) rfl rfl [1, 2] [0, 3] rfl rfl rfl rfl (by decide) (Nat.le_of_ble_eq_true rfl) dX8_street_157 ⟨(Nat.le_of_ble_eq_true rfl), (Nat.le_of_ble_eq_true rfl)⟩ rfl (fun r w1 H locs hQ V => ?_)
                    rcases hQ with ⟨a2_60, b2_61, k2_62, n2_63, rfl, rfl, f_64, f_65, f_66, f_67, f_68⟩ | ⟨rfl, rfl⟩
                    · have V : gW D T A s [(g1, .inl (T 0, 282, .inl fa)), (g4, .inl (T 0, 94, .inl gf_55)), (o, .inr (8, [.int (nI 0), .ref g1, .ref g2, .ref g3, .ref g4, .int (nI 0), .int (nI a2_60), .int (nI b2_61), .int (nI jn), .int k2_62, .int n2_63, .int u2_52, .int l2_53, .int w13, .int w14, .ref g15, .int w16, .ref g17, .int w18, .int w19, .ref g20, .int w21, .ref g22, .ref g23, .ref g24, .int w25, .int w26, .int w27, .ref g28, .ref g29, .int w30, .ref g31, .ref g32, .ref g33])), (g3, .inl (T 0, 900, .inl ft))] H locs := V
                      show W p l e _ s m args below meth c H locs _ _ _ (F0 m 160 ls [.int (nI 1)])
                      refine lv_if_ne (tgt := 168) hx hb dX8_street_160 (by decide) (fun _ => ?_) (fun c => absurd (show (nI 1) = 0 from c) (by decide +kernel))
                      refine lv_aload_n hx hb dX8_street_168 rfl (lv_at hl 0 rfl) ?_
                      refine g_get hC V (ci := 8) uwX8 2 rfl rfl 4 (by decide) w_916 rfl rfl dX8_street_169 ?_
                      refine lv_iconst (v := (nI 3)) hx hb dX8_street_172 (by decide +kernel) ?_
                      refine lv_dup2_11 hx hb dX8_street_173 rfl rfl ?_
                      refine g_iald hC V 1 rfl (vp_in_nI (by decide) (by decide)) (v := (gf_55 3)) (congrArg _ (nI_clamp (by decide))) dX8_street_174 ?_
                      refine lv_iconst (v := (nI 1)) hx hb dX8_street_175 (by decide +kernel) ?_
                      refine lv_iadd hx hb dX8_street_176 ?_
                      refine g_iast hC V 1 rfl (vp_in_nI (by decide) (by decide)) (f' := (upd gf_55 3 ((gf_55 3) + (nI 1)))) (by rw [nI_clamp (by decide)]) (ws' := [(g1, .inl (T 0, 282, .inl fa)), (g4, .inl (T 0, 94, .inl (upd gf_55 3 ((gf_55 3) + (nI 1))))), (o, .inr (8, [.int (nI 0), .ref g1, .ref g2, .ref g3, .ref g4, .int (nI 0), .int (nI a2_60), .int (nI b2_61), .int (nI jn), .int k2_62, .int n2_63, .int u2_52, .int l2_53, .int w13, .int w14, .ref g15, .int w16, .ref g17, .int w18, .int w19, .ref g20, .int w21, .ref g22, .ref g23, .ref g24, .int w25, .int w26, .int w27, .ref g28, .ref g29, .int w30, .ref g31, .ref g32, .ref g33])), (g3, .inl (T 0, 900, .inl ft))]) rfl dX8_street_177 (fun H locs V => ?_)
                      refine lv_goto (tgt := 77) hx hb dX8_street_178 (by decide) ?_
                      exact ih_77 a2_60 b2_61 k2_62 n2_63 u2_52 l2_53 (upd gf_55 3 ((gf_55 3) + (nI 1))) n3_54 (fun _ => fr_line f_56) (by omega) (Nat.lt_of_lt_of_le (rd_dec hw0 hk11 (by omega) (Or.inr (f_68.imp id (fun h => by omega)))) (Nat.le_of_lt_succ hmu_77)) _ _ _ V (lv_sub hl [0, 1] rfl)
                    · have V : gW D T A s [(g1, .inl (T 0, 282, .inl fa)), (g4, .inl (T 0, 94, .inl gf_55)), (o, .inr (8, [.int (nI 0), .ref g1, .ref g2, .ref g3, .ref g4, .int (nI 0), .int (nI a2_48), .int (nI b2_49), .int (nI jn), .int k2_50, .int n2_51, .int u2_52, .int l2_53, .int w13, .int w14, .ref g15, .int w16, .ref g17, .int w18, .int w19, .ref g20, .int w21, .ref g22, .ref g23, .ref g24, .int w25, .int w26, .int w27, .ref g28, .ref g29, .int w30, .ref g31, .ref g32, .ref g33])), (g3, .inl (T 0, 900, .inl ft))] H locs := V
                      show W p l e _ s m args below meth c H locs _ _ _ (F0 m 160 ls [.int (nI 0)])
                      refine lv_if_ne (tgt := 168) hx hb dX8_street_160 (by decide) (fun c => absurd (show (nI 0) = 0 by decide +kernel) c) (fun _ => ?_)
                      refine lv_aload_n hx hb dX8_street_163 rfl (lv_at hl 0 rfl) ?_
                      refine lv_iconst (v := (nI 2)) hx hb dX8_street_164 (by decide +kernel) ?_
                      refine g_callV (wr := [(g1, .inl (T 0, 282, .inl fa)), (g4, .inl (T 0, 94, .inl gf_55)), (g3, .inl (T 0, 900, .inl ft))]) (nA := 1) hC V hl.1 (m_fails l D T o (nI 2) (nI 0) g1 g2 g3 g4 0 a2_48 b2_49 (nI jn) k2_50 n2_51 u2_52 l2_53 w13 w14 g15 w16 g17 w18 w19 g20 w21 g22 g23 g24 w25 w26 w27 g28 g29 w30 g31 g32 g33 (by decide +kernel)) w_1055 w_1057 w_s41 w_9 w_1058 (by decide +kernel) rfl ⟨(Nat.le_of_ble_eq_true rfl), (Nat.le_of_ble_eq_true rfl)⟩ 2 (ci := 8) rfl rfl [2] [0, 1, 3] rfl rfl rfl rfl (by decide) (Nat.le_of_ble_eq_true rfl) dX8_street_165 ⟨(Nat.le_of_ble_eq_true rfl), (Nat.le_of_ble_eq_true rfl)⟩ rfl (fun r w1 H locs hQ V => ?_)
                      obtain ⟨u2_69, l2_70, rfl, rfl, f_71⟩ := hQ
                      have V : gW D T A s [(g1, .inl (T 0, 282, .inl fa)), (g4, .inl (T 0, 94, .inl gf_55)), (g3, .inl (T 0, 900, .inl ft)), (o, .inr (8, [.int (nI 0), .ref g1, .ref g2, .ref g3, .ref g4, .int (nI 0), .int (nI a2_48), .int (nI b2_49), .int (nI jn), .int k2_50, .int n2_51, .int u2_69, .int l2_70, .int w13, .int w14, .ref g15, .int w16, .ref g17, .int w18, .int w19, .ref g20, .int w21, .ref g22, .ref g23, .ref g24, .int w25, .int w26, .int w27, .ref g28, .ref g29, .int w30, .ref g31, .ref g32, .ref g33]))] H locs := V
                      show W p l e _ s m args below meth c H locs _ _ _ (F0 m 168 ls [])
                      refine lv_aload_n hx hb dX8_street_168 rfl (lv_at hl 0 rfl) ?_
                      refine g_get hC V (ci := 8) uwX8 3 rfl rfl 4 (by decide) w_916 rfl rfl dX8_street_169 ?_
                      refine lv_iconst (v := (nI 3)) hx hb dX8_street_172 (by decide +kernel) ?_
                      refine lv_dup2_11 hx hb dX8_street_173 rfl rfl ?_
                      refine g_iald hC V 1 rfl (vp_in_nI (by decide) (by decide)) (v := (gf_55 3)) (congrArg _ (nI_clamp (by decide))) dX8_street_174 ?_
                      refine lv_iconst (v := (nI 1)) hx hb dX8_street_175 (by decide +kernel) ?_
                      refine lv_iadd hx hb dX8_street_176 ?_
                      refine g_iast hC V 1 rfl (vp_in_nI (by decide) (by decide)) (f' := (upd gf_55 3 ((gf_55 3) + (nI 1)))) (by rw [nI_clamp (by decide)]) (ws' := [(g1, .inl (T 0, 282, .inl fa)), (g4, .inl (T 0, 94, .inl (upd gf_55 3 ((gf_55 3) + (nI 1))))), (g3, .inl (T 0, 900, .inl ft)), (o, .inr (8, [.int (nI 0), .ref g1, .ref g2, .ref g3, .ref g4, .int (nI 0), .int (nI a2_48), .int (nI b2_49), .int (nI jn), .int k2_50, .int n2_51, .int u2_69, .int l2_70, .int w13, .int w14, .ref g15, .int w16, .ref g17, .int w18, .int w19, .ref g20, .int w21, .ref g22, .ref g23, .ref g24, .int w25, .int w26, .int w27, .ref g28, .ref g29, .int w30, .ref g31, .ref g32, .ref g33]))]) rfl dX8_street_177 (fun H locs V => ?_)
                      refine lv_goto (tgt := 77) hx hb dX8_street_178 (by decide) ?_
                      exact ih_77 a2_48 b2_49 k2_50 n2_51 u2_69 l2_70 (upd gf_55 3 ((gf_55 3) + (nI 1))) n3_54 (fun h => absurd h (by assumption)) (by omega) (Nat.lt_of_lt_of_le (rd_dec hw0 hk11 (by omega) (Or.inl (by assumption))) (Nat.le_of_lt_succ hmu_77)) _ _ _ (V.sub [0, 1, 3, 2] rfl rfl) (lv_sub hl [0, 1] rfl)
                  · have V : gW D T A s [(g1, .inl (T 0, 282, .inl fa)), (g4, .inl (T 0, 94, .inl f77)), (g3, .inl (T 0, 900, .inl ft)), (o, .inr (8, [.int (nI 0), .ref g1, .ref g2, .ref g3, .ref g4, .int (nI 0), .int (nI aq), .int (nI bq), .int (nI jn), .int kv, .int nv, .int wv, .int wav, .int w13, .int w14, .ref g15, .int w16, .ref g17, .int w18, .int w19, .ref g20, .int w21, .ref g22, .ref g23, .ref g24, .int w25, .int w26, .int w27, .ref g28, .ref g29, .int w30, .ref g31, .ref g32, .ref g33]))] H locs := V
                    show W p l e _ s m args below meth c H locs _ _ _ (F0 m 98 ls [.int (nI 0)])
                    refine lv_if_eq (tgt := 108) hx hb dX8_street_98 (by decide) (fun _ => ?_) (fun c => absurd (show (nI 0) = 0 by decide +kernel) c)
                    refine lv_aload_n hx hb dX8_street_108 rfl (lv_at hl 0 rfl) ?_
                    refine lv_bipush (v := (nI 6)) hx hb dX8_street_109 (by decide +kernel) ?_
                    refine g_callV (wr := [(g1, .inl (T 0, 282, .inl fa)), (g4, .inl (T 0, 94, .inl f77))]) (nA := 1) hC V hl.1 (m_eats l D T o (nI 6) (nI 0) g1 g2 g3 g4 0 aq bq jn kv nv wv wav w13 w14 g15 w16 g17 w18 w19 g20 w21 g22 g23 g24 w25 w26 w27 g28 g29 w30 g31 g32 g33 ft (by first | assumption | omega) (by first | assumption | omega)) w_1067 w_1069 w_s44 w_9 w_1070 (by decide +kernel) rfl ⟨(Nat.le_of_ble_eq_true rfl), (Nat.le_of_ble_eq_true rfl)⟩ 3 (ci := 8) rfl rfl [3, 2] [0, 1] rfl rfl rfl rfl (by decide) (Nat.le_of_ble_eq_true rfl) dX8_street_111 ⟨(Nat.le_of_ble_eq_true rfl), (Nat.le_of_ble_eq_true rfl)⟩ rfl (fun r w1 H locs hQ V => ?_)
                    rcases hQ with ⟨a2_72, b2_73, k2_74, n2_75, rfl, rfl, f_76, f_77, f_78, f_79, f_80⟩ | ⟨rfl, rfl⟩
                    · have V : gW D T A s [(g1, .inl (T 0, 282, .inl fa)), (g4, .inl (T 0, 94, .inl f77)), (o, .inr (8, [.int (nI 0), .ref g1, .ref g2, .ref g3, .ref g4, .int (nI 0), .int (nI a2_72), .int (nI b2_73), .int (nI jn), .int k2_74, .int n2_75, .int wv, .int wav, .int w13, .int w14, .ref g15, .int w16, .ref g17, .int w18, .int w19, .ref g20, .int w21, .ref g22, .ref g23, .ref g24, .int w25, .int w26, .int w27, .ref g28, .ref g29, .int w30, .ref g31, .ref g32, .ref g33])), (g3, .inl (T 0, 900, .inl ft))] H locs := V
                      show W p l e _ s m args below meth c H locs _ _ _ (F0 m 114 ls [.int (nI 1)])
                      refine lv_if_eq (tgt := 124) hx hb dX8_street_114 (by decide) (fun c => absurd (show (nI 1) = 0 from c) (by decide +kernel)) (fun _ => ?_)
                      refine lv_aload_n hx hb dX8_street_117 rfl (lv_at hl 0 rfl) ?_
                      refine g_callV (wr := [(g1, .inl (T 0, 282, .inl fa))]) (nA := 0) hC V hl.1 (m_readBlows l D T nq o (nI 0) g1 g2 g3 g4 0 a2_72 b2_73 jn k2_74 n2_75 wv wav w13 w14 g15 w16 g17 w18 w19 g20 w21 g22 g23 g24 w25 w26 w27 g28 g29 w30 g31 g32 g33 ft f77 (by first | assumption | omega) (by first | assumption | omega) (by first | assumption | omega)) w_1071 w_1073 w_s45 w_9 w_1074 (by decide +kernel) rfl ⟨(Nat.le_of_ble_eq_true rfl), (Nat.le_of_ble_eq_true rfl)⟩ 2 (ci := 8) rfl rfl [2, 3, 1] [0] rfl rfl rfl rfl (by decide) (Nat.le_of_ble_eq_true rfl) dX8_street_118 ⟨(Nat.le_of_ble_eq_true rfl), (Nat.le_of_ble_eq_true rfl)⟩ rfl (fun r w1 H locs hQ V => ?_)
                      obtain ⟨a2_81, b2_82, k2_83, n2_84, u2_85, l2_86, gf_87, rfl, rfl, f_88, f_89, f_90, f_91⟩ := hQ
                      have V : gW D T A s [(g1, .inl (T 0, 282, .inl fa)), (o, .inr (8, [.int (nI 0), .ref g1, .ref g2, .ref g3, .ref g4, .int (nI 0), .int (nI a2_81), .int (nI b2_82), .int (nI jn), .int k2_83, .int n2_84, .int u2_85, .int l2_86, .int w13, .int w14, .ref g15, .int w16, .ref g17, .int w18, .int w19, .ref g20, .int w21, .ref g22, .ref g23, .ref g24, .int w25, .int w26, .int w27, .ref g28, .ref g29, .int w30, .ref g31, .ref g32, .ref g33])), (g3, .inl (T 0, 900, .inl ft)), (g4, .inl (T 0, 94, .inl gf_87))] H locs := V
                      show W p l e _ s m args below meth c H locs _ _ _ (F0 m 121 ls [])
                      refine lv_goto (tgt := 154) hx hb dX8_street_121 (by decide) ?_
                      refine lv_aload_n hx hb dX8_street_154 rfl (lv_at hl 0 rfl) ?_
                      refine lv_bipush (v := (nI 10)) hx hb dX8_street_155 (by decide +kernel) ?_
                      refine g_callV (wr := [(g1, .inl (T 0, 282, .inl fa)), (g4, .inl (T 0, 94, .inl gf_87))]) (nA := 1) hC V hl.1 (m_eats l D T o (nI 10) (nI 0) g1 g2 g3 g4 0 a2_81 b2_82 jn k2_83 n2_84 u2_85 l2_86 w13 w14 g15 w16 g17 w18 w19 g20 w21 g22 g23 g24 w25 w26 w27 g28 g29 w30 g31 g32 g33 ft (by first | assumption | omega) (by first | assumption | omega)) w_1067 w_1069 w_s44 w_9 w_1070 (by decide +kernel) rfl ⟨(Nat.le_of_ble_eq_true rfl), (Nat.le_of_ble_eq_true rfl)⟩ 1 (ci := 8) rfl rfl [1, 2] [0, 3] rfl rfl rfl rfl (by decide) (Nat.le_of_ble_eq_true rfl) dX8_street_157 ⟨(Nat.le_of_ble_eq_true rfl), (Nat.le_of_ble_eq_true rfl)⟩ rfl (fun r w1 H locs hQ V => ?_)
                      rcases hQ with ⟨a2_92, b2_93, k2_94, n2_95, rfl, rfl, f_96, f_97, f_98, f_99, f_100⟩ | ⟨rfl, rfl⟩
                      · have V : gW D T A s [(g1, .inl (T 0, 282, .inl fa)), (g4, .inl (T 0, 94, .inl gf_87)), (o, .inr (8, [.int (nI 0), .ref g1, .ref g2, .ref g3, .ref g4, .int (nI 0), .int (nI a2_92), .int (nI b2_93), .int (nI jn), .int k2_94, .int n2_95, .int u2_85, .int l2_86, .int w13, .int w14, .ref g15, .int w16, .ref g17, .int w18, .int w19, .ref g20, .int w21, .ref g22, .ref g23, .ref g24, .int w25, .int w26, .int w27, .ref g28, .ref g29, .int w30, .ref g31, .ref g32, .ref g33])), (g3, .inl (T 0, 900, .inl ft))] H locs := V
                        show W p l e _ s m args below meth c H locs _ _ _ (F0 m 160 ls [.int (nI 1)])
                        refine lv_if_ne (tgt := 168) hx hb dX8_street_160 (by decide) (fun _ => ?_) (fun c => absurd (show (nI 1) = 0 from c) (by decide +kernel))
                        refine lv_aload_n hx hb dX8_street_168 rfl (lv_at hl 0 rfl) ?_
                        refine g_get hC V (ci := 8) uwX8 2 rfl rfl 4 (by decide) w_916 rfl rfl dX8_street_169 ?_
                        refine lv_iconst (v := (nI 3)) hx hb dX8_street_172 (by decide +kernel) ?_
                        refine lv_dup2_11 hx hb dX8_street_173 rfl rfl ?_
                        refine g_iald hC V 1 rfl (vp_in_nI (by decide) (by decide)) (v := (gf_87 3)) (congrArg _ (nI_clamp (by decide))) dX8_street_174 ?_
                        refine lv_iconst (v := (nI 1)) hx hb dX8_street_175 (by decide +kernel) ?_
                        refine lv_iadd hx hb dX8_street_176 ?_
                        refine g_iast hC V 1 rfl (vp_in_nI (by decide) (by decide)) (f' := (upd gf_87 3 ((gf_87 3) + (nI 1)))) (by rw [nI_clamp (by decide)]) (ws' := [(g1, .inl (T 0, 282, .inl fa)), (g4, .inl (T 0, 94, .inl (upd gf_87 3 ((gf_87 3) + (nI 1))))), (o, .inr (8, [.int (nI 0), .ref g1, .ref g2, .ref g3, .ref g4, .int (nI 0), .int (nI a2_92), .int (nI b2_93), .int (nI jn), .int k2_94, .int n2_95, .int u2_85, .int l2_86, .int w13, .int w14, .ref g15, .int w16, .ref g17, .int w18, .int w19, .ref g20, .int w21, .ref g22, .ref g23, .ref g24, .int w25, .int w26, .int w27, .ref g28, .ref g29, .int w30, .ref g31, .ref g32, .ref g33])), (g3, .inl (T 0, 900, .inl ft))]) rfl dX8_street_177 (fun H locs V => ?_)
                        refine lv_goto (tgt := 77) hx hb dX8_street_178 (by decide) ?_
                        exact ih_77 a2_92 b2_93 k2_94 n2_95 u2_85 l2_86 (upd gf_87 3 ((gf_87 3) + (nI 1))) nq (fun _ => fr_line f_88) (by omega) (Nat.lt_of_lt_of_le (rd_dec hw0 hk11 (by omega) (Or.inr (f_100.imp id (fun h => by omega)))) (Nat.le_of_lt_succ hmu_77)) _ _ _ V (lv_sub hl [0, 1] rfl)
                      · have V : gW D T A s [(g1, .inl (T 0, 282, .inl fa)), (g4, .inl (T 0, 94, .inl gf_87)), (o, .inr (8, [.int (nI 0), .ref g1, .ref g2, .ref g3, .ref g4, .int (nI 0), .int (nI a2_81), .int (nI b2_82), .int (nI jn), .int k2_83, .int n2_84, .int u2_85, .int l2_86, .int w13, .int w14, .ref g15, .int w16, .ref g17, .int w18, .int w19, .ref g20, .int w21, .ref g22, .ref g23, .ref g24, .int w25, .int w26, .int w27, .ref g28, .ref g29, .int w30, .ref g31, .ref g32, .ref g33])), (g3, .inl (T 0, 900, .inl ft))] H locs := V
                        show W p l e _ s m args below meth c H locs _ _ _ (F0 m 160 ls [.int (nI 0)])
                        refine lv_if_ne (tgt := 168) hx hb dX8_street_160 (by decide) (fun c => absurd (show (nI 0) = 0 by decide +kernel) c) (fun _ => ?_)
                        refine lv_aload_n hx hb dX8_street_163 rfl (lv_at hl 0 rfl) ?_
                        refine lv_iconst (v := (nI 2)) hx hb dX8_street_164 (by decide +kernel) ?_
                        refine g_callV (wr := [(g1, .inl (T 0, 282, .inl fa)), (g4, .inl (T 0, 94, .inl gf_87)), (g3, .inl (T 0, 900, .inl ft))]) (nA := 1) hC V hl.1 (m_fails l D T o (nI 2) (nI 0) g1 g2 g3 g4 0 a2_81 b2_82 (nI jn) k2_83 n2_84 u2_85 l2_86 w13 w14 g15 w16 g17 w18 w19 g20 w21 g22 g23 g24 w25 w26 w27 g28 g29 w30 g31 g32 g33 (by decide +kernel)) w_1055 w_1057 w_s41 w_9 w_1058 (by decide +kernel) rfl ⟨(Nat.le_of_ble_eq_true rfl), (Nat.le_of_ble_eq_true rfl)⟩ 2 (ci := 8) rfl rfl [2] [0, 1, 3] rfl rfl rfl rfl (by decide) (Nat.le_of_ble_eq_true rfl) dX8_street_165 ⟨(Nat.le_of_ble_eq_true rfl), (Nat.le_of_ble_eq_true rfl)⟩ rfl (fun r w1 H locs hQ V => ?_)
                        obtain ⟨u2_101, l2_102, rfl, rfl, f_103⟩ := hQ
                        have V : gW D T A s [(g1, .inl (T 0, 282, .inl fa)), (g4, .inl (T 0, 94, .inl gf_87)), (g3, .inl (T 0, 900, .inl ft)), (o, .inr (8, [.int (nI 0), .ref g1, .ref g2, .ref g3, .ref g4, .int (nI 0), .int (nI a2_81), .int (nI b2_82), .int (nI jn), .int k2_83, .int n2_84, .int u2_101, .int l2_102, .int w13, .int w14, .ref g15, .int w16, .ref g17, .int w18, .int w19, .ref g20, .int w21, .ref g22, .ref g23, .ref g24, .int w25, .int w26, .int w27, .ref g28, .ref g29, .int w30, .ref g31, .ref g32, .ref g33]))] H locs := V
                        show W p l e _ s m args below meth c H locs _ _ _ (F0 m 168 ls [])
                        refine lv_aload_n hx hb dX8_street_168 rfl (lv_at hl 0 rfl) ?_
                        refine g_get hC V (ci := 8) uwX8 3 rfl rfl 4 (by decide) w_916 rfl rfl dX8_street_169 ?_
                        refine lv_iconst (v := (nI 3)) hx hb dX8_street_172 (by decide +kernel) ?_
                        refine lv_dup2_11 hx hb dX8_street_173 rfl rfl ?_
                        refine g_iald hC V 1 rfl (vp_in_nI (by decide) (by decide)) (v := (gf_87 3)) (congrArg _ (nI_clamp (by decide))) dX8_street_174 ?_
                        refine lv_iconst (v := (nI 1)) hx hb dX8_street_175 (by decide +kernel) ?_
                        refine lv_iadd hx hb dX8_street_176 ?_
                        refine g_iast hC V 1 rfl (vp_in_nI (by decide) (by decide)) (f' := (upd gf_87 3 ((gf_87 3) + (nI 1)))) (by rw [nI_clamp (by decide)]) (ws' := [(g1, .inl (T 0, 282, .inl fa)), (g4, .inl (T 0, 94, .inl (upd gf_87 3 ((gf_87 3) + (nI 1))))), (g3, .inl (T 0, 900, .inl ft)), (o, .inr (8, [.int (nI 0), .ref g1, .ref g2, .ref g3, .ref g4, .int (nI 0), .int (nI a2_81), .int (nI b2_82), .int (nI jn), .int k2_83, .int n2_84, .int u2_101, .int l2_102, .int w13, .int w14, .ref g15, .int w16, .ref g17, .int w18, .int w19, .ref g20, .int w21, .ref g22, .ref g23, .ref g24, .int w25, .int w26, .int w27, .ref g28, .ref g29, .int w30, .ref g31, .ref g32, .ref g33]))]) rfl dX8_street_177 (fun H locs V => ?_)
                        refine lv_goto (tgt := 77) hx hb dX8_street_178 (by decide) ?_
                        exact ih_77 a2_81 b2_82 k2_83 n2_84 u2_101 l2_102 (upd gf_87 3 ((gf_87 3) + (nI 1))) nq (fun h => absurd h (by assumption)) (by omega) (Nat.lt_of_lt_of_le (rd_dec hw0 hk11 (by omega) (Or.inl (by assumption))) (Nat.le_of_lt_succ hmu_77)) _ _ _ (V.sub [0, 1, 3, 2] rfl rfl) (lv_sub hl [0, 1] rfl)
                    · have V : gW D T A s [(g1, .inl (T 0, 282, .inl fa)), (g4, .inl (T 0, 94, .inl f77)), (o, .inr (8, [.int (nI 0), .ref g1, .ref g2, .ref g3, .ref g4, .int (nI 0), .int (nI aq), .int (nI bq), .int (nI jn), .int kv, .int nv, .int wv, .int wav, .int w13, .int w14, .ref g15, .int w16, .ref g17, .int w18, .int w19, .ref g20, .int w21, .ref g22, .ref g23, .ref g24, .int w25, .int w26, .int w27, .ref g28, .ref g29, .int w30, .ref g31, .ref g32, .ref g33])), (g3, .inl (T 0, 900, .inl ft))] H locs := V
                      show W p l e _ s m args below meth c H locs _ _ _ (F0 m 114 ls [.int (nI 0)])
                      refine lv_if_eq (tgt := 124) hx hb dX8_street_114 (by decide) (fun _ => ?_) (fun c => absurd (show (nI 0) = 0 by decide +kernel) c)
                      refine lv_aload_n hx hb dX8_street_124 rfl (lv_at hl 0 rfl) ?_
                      refine lv_bipush (v := (nI 7)) hx hb dX8_street_125 (by decide +kernel) ?_
                      refine g_callV (wr := [(g1, .inl (T 0, 282, .inl fa)), (g4, .inl (T 0, 94, .inl f77))]) (nA := 1) hC V hl.1 (m_eats l D T o (nI 7) (nI 0) g1 g2 g3 g4 0 aq bq jn kv nv wv wav w13 w14 g15 w16 g17 w18 w19 g20 w21 g22 g23 g24 w25 w26 w27 g28 g29 w30 g31 g32 g33 ft (by first | assumption | omega) (by first | assumption | omega)) w_1067 w_1069 w_s44 w_9 w_1070 (by decide +kernel) rfl ⟨(Nat.le_of_ble_eq_true rfl), (Nat.le_of_ble_eq_true rfl)⟩ 2 (ci := 8) rfl rfl [2, 3] [0, 1] rfl rfl rfl rfl (by decide) (Nat.le_of_ble_eq_true rfl) dX8_street_127 ⟨(Nat.le_of_ble_eq_true rfl), (Nat.le_of_ble_eq_true rfl)⟩ rfl (fun r w1 H locs hQ V => ?_)
                      rcases hQ with ⟨a2_104, b2_105, k2_106, n2_107, rfl, rfl, f_108, f_109, f_110, f_111, f_112⟩ | ⟨rfl, rfl⟩
                      · have V : gW D T A s [(g1, .inl (T 0, 282, .inl fa)), (g4, .inl (T 0, 94, .inl f77)), (o, .inr (8, [.int (nI 0), .ref g1, .ref g2, .ref g3, .ref g4, .int (nI 0), .int (nI a2_104), .int (nI b2_105), .int (nI jn), .int k2_106, .int n2_107, .int wv, .int wav, .int w13, .int w14, .ref g15, .int w16, .ref g17, .int w18, .int w19, .ref g20, .int w21, .ref g22, .ref g23, .ref g24, .int w25, .int w26, .int w27, .ref g28, .ref g29, .int w30, .ref g31, .ref g32, .ref g33])), (g3, .inl (T 0, 900, .inl ft))] H locs := V
                        show W p l e _ s m args below meth c H locs _ _ _ (F0 m 130 ls [.int (nI 1)])
                        refine lv_if_eq (tgt := 149) hx hb dX8_street_130 (by decide) (fun c => absurd (show (nI 1) = 0 from c) (by decide +kernel)) (fun _ => ?_)
                        refine lv_aload_n hx hb dX8_street_133 rfl (lv_at hl 0 rfl) ?_
                        refine g_get hC V (ci := 8) uwX8 2 rfl rfl 4 (by decide) w_916 rfl rfl dX8_street_134 ?_
                        refine lv_iconst (v := (nI 2)) hx hb dX8_street_137 (by decide +kernel) ?_
                        refine lv_aload_n hx hb dX8_street_138 rfl (lv_at hl 0 rfl) ?_
                        refine lv_iconst (v := (nI 0)) hx hb dX8_street_139 (by decide +kernel) ?_
                        refine lv_bipush (v := (nI 20)) hx hb dX8_street_140 (by decide +kernel) ?_
                        refine g_callV (wr := [(g1, .inl (T 0, 282, .inl fa)), (g4, .inl (T 0, 94, .inl f77))]) (nA := 2) hC V hl.1 (m_takes l D T o (nI 0) (nI 20) (nI 0) g1 g2 g3 g4 0 a2_104 b2_105 jn k2_106 n2_107 wv wav w13 w14 g15 w16 g17 w18 w19 g20 w21 g22 g23 g24 w25 w26 w27 g28 g29 w30 g31 g32 g33 ft (by first | assumption | omega) (by first | assumption | omega)) w_1059 w_1061 w_s42 w_9 w_1062 (by decide +kernel) rfl ⟨(Nat.le_of_ble_eq_true rfl), (Nat.le_of_ble_eq_true rfl)⟩ 2 (ci := 8) rfl rfl [2, 3] [0, 1] rfl rfl rfl rfl (by decide) (Nat.le_of_ble_eq_true rfl) dX8_street_142 ⟨(Nat.le_of_ble_eq_true rfl), (Nat.le_of_ble_eq_true rfl)⟩ rfl (fun r w1 H locs hQ V => ?_)
                        obtain ⟨z_113, a2_114, b2_115, k2_116, n2_117, u2_118, l2_119, rfl, rfl, f_120, f_121, f_122, f_123⟩ := hQ
                        have V : gW D T A s [(g1, .inl (T 0, 282, .inl fa)), (g4, .inl (T 0, 94, .inl f77)), (o, .inr (8, [.int (nI 0), .ref g1, .ref g2, .ref g3, .ref g4, .int (nI 0), .int (nI a2_114), .int (nI b2_115), .int (nI jn), .int k2_116, .int n2_117, .int u2_118, .int l2_119, .int w13, .int w14, .ref g15, .int w16, .ref g17, .int w18, .int w19, .ref g20, .int w21, .ref g22, .ref g23, .ref g24, .int w25, .int w26, .int w27, .ref g28, .ref g29, .int w30, .ref g31, .ref g32, .ref g33])), (g3, .inl (T 0, 900, .inl ft))] H locs := V
                        show W p l e _ s m args below meth c H locs _ _ _ (F0 m 145 ls [.int z_113, .int (nI 2), .ref g4])
                        refine g_iast hC V 1 rfl (vp_in_nI (by decide) (by decide)) (f' := (upd f77 2 z_113)) (by rw [nI_clamp (by decide)]) (ws' := [(g1, .inl (T 0, 282, .inl fa)), (g4, .inl (T 0, 94, .inl (upd f77 2 z_113))), (o, .inr (8, [.int (nI 0), .ref g1, .ref g2, .ref g3, .ref g4, .int (nI 0), .int (nI a2_114), .int (nI b2_115), .int (nI jn), .int k2_116, .int n2_117, .int u2_118, .int l2_119, .int w13, .int w14, .ref g15, .int w16, .ref g17, .int w18, .int w19, .ref g20, .int w21, .ref g22, .ref g23, .ref g24, .int w25, .int w26, .int w27, .ref g28, .ref g29, .int w30, .ref g31, .ref g32, .ref g33])), (g3, .inl (T 0, 900, .inl ft))]) rfl dX8_street_145 (fun H locs V => ?_)
                        refine lv_goto (tgt := 154) hx hb dX8_street_146 (by decide) ?_
                        refine lv_aload_n hx hb dX8_street_154 rfl (lv_at hl 0 rfl) ?_
                        refine lv_bipush (v := (nI 10)) hx hb dX8_street_155 (by decide +kernel) ?_
                        refine g_callV (wr := [(g1, .inl (T 0, 282, .inl fa)), (g4, .inl (T 0, 94, .inl (upd f77 2 z_113)))]) (nA := 1) hC V hl.1 (m_eats l D T o (nI 10) (nI 0) g1 g2 g3 g4 0 a2_114 b2_115 jn k2_116 n2_117 u2_118 l2_119 w13 w14 g15 w16 g17 w18 w19 g20 w21 g22 g23 g24 w25 w26 w27 g28 g29 w30 g31 g32 g33 ft (by first | assumption | omega) (by first | assumption | omega)) w_1067 w_1069 w_s44 w_9 w_1070 (by decide +kernel) rfl ⟨(Nat.le_of_ble_eq_true rfl), (Nat.le_of_ble_eq_true rfl)⟩ 2 (ci := 8) rfl rfl [2, 3] [0, 1] rfl rfl rfl rfl (by decide) (Nat.le_of_ble_eq_true rfl) dX8_street_157 ⟨(Nat.le_of_ble_eq_true rfl), (Nat.le_of_ble_eq_true rfl)⟩ rfl (fun r w1 H locs hQ V => ?_)
                        rcases hQ with ⟨a2_124, b2_125, k2_126, n2_127, rfl, rfl, f_128, f_129, f_130, f_131, f_132⟩ | ⟨rfl, rfl⟩
                        · have V : gW D T A s [(g1, .inl (T 0, 282, .inl fa)), (g4, .inl (T 0, 94, .inl (upd f77 2 z_113))), (o, .inr (8, [.int (nI 0), .ref g1, .ref g2, .ref g3, .ref g4, .int (nI 0), .int (nI a2_124), .int (nI b2_125), .int (nI jn), .int k2_126, .int n2_127, .int u2_118, .int l2_119, .int w13, .int w14, .ref g15, .int w16, .ref g17, .int w18, .int w19, .ref g20, .int w21, .ref g22, .ref g23, .ref g24, .int w25, .int w26, .int w27, .ref g28, .ref g29, .int w30, .ref g31, .ref g32, .ref g33])), (g3, .inl (T 0, 900, .inl ft))] H locs := V
                          show W p l e _ s m args below meth c H locs _ _ _ (F0 m 160 ls [.int (nI 1)])
                          refine lv_if_ne (tgt := 168) hx hb dX8_street_160 (by decide) (fun _ => ?_) (fun c => absurd (show (nI 1) = 0 from c) (by decide +kernel))
                          refine lv_aload_n hx hb dX8_street_168 rfl (lv_at hl 0 rfl) ?_
                          refine g_get hC V (ci := 8) uwX8 2 rfl rfl 4 (by decide) w_916 rfl rfl dX8_street_169 ?_
                          refine lv_iconst (v := (nI 3)) hx hb dX8_street_172 (by decide +kernel) ?_
                          refine lv_dup2_11 hx hb dX8_street_173 rfl rfl ?_
                          refine g_iald hC V 1 rfl (vp_in_nI (by decide) (by decide)) (v := ((upd f77 2 z_113) 3)) (congrArg _ (nI_clamp (by decide))) dX8_street_174 ?_
                          refine lv_iconst (v := (nI 1)) hx hb dX8_street_175 (by decide +kernel) ?_
                          refine lv_iadd hx hb dX8_street_176 ?_
                          refine g_iast hC V 1 rfl (vp_in_nI (by decide) (by decide)) (f' := (upd (upd f77 2 z_113) 3 (((upd f77 2 z_113) 3) + (nI 1)))) (by rw [nI_clamp (by decide)]) (ws' := [(g1, .inl (T 0, 282, .inl fa)), (g4, .inl (T 0, 94, .inl (upd (upd f77 2 z_113) 3 (((upd f77 2 z_113) 3) + (nI 1))))), (o, .inr (8, [.int (nI 0), .ref g1, .ref g2, .ref g3, .ref g4, .int (nI 0), .int (nI a2_124), .int (nI b2_125), .int (nI jn), .int k2_126, .int n2_127, .int u2_118, .int l2_119, .int w13, .int w14, .ref g15, .int w16, .ref g17, .int w18, .int w19, .ref g20, .int w21, .ref g22, .ref g23, .ref g24, .int w25, .int w26, .int w27, .ref g28, .ref g29, .int w30, .ref g31, .ref g32, .ref g33])), (g3, .inl (T 0, 900, .inl ft))]) rfl dX8_street_177 (fun H locs V => ?_)
                          refine lv_goto (tgt := 77) hx hb dX8_street_178 (by decide) ?_
                          exact ih_77 a2_124 b2_125 k2_126 n2_127 u2_118 l2_119 (upd (upd f77 2 z_113) 3 (((upd f77 2 z_113) 3) + (nI 1))) nq (fun h => fr_line (fr_lost hF (rg_bd (f_122 h) (by decide)))) (by omega) (Nat.lt_of_lt_of_le (rd_dec hw0 hk11 (by omega) (Or.inr (f_132.imp id (fun h => by omega)))) (Nat.le_of_lt_succ hmu_77)) _ _ _ V (lv_sub hl [0, 1] rfl)
                        · have V : gW D T A s [(g1, .inl (T 0, 282, .inl fa)), (g4, .inl (T 0, 94, .inl (upd f77 2 z_113))), (o, .inr (8, [.int (nI 0), .ref g1, .ref g2, .ref g3, .ref g4, .int (nI 0), .int (nI a2_114), .int (nI b2_115), .int (nI jn), .int k2_116, .int n2_117, .int u2_118, .int l2_119, .int w13, .int w14, .ref g15, .int w16, .ref g17, .int w18, .int w19, .ref g20, .int w21, .ref g22, .ref g23, .ref g24, .int w25, .int w26, .int w27, .ref g28, .ref g29, .int w30, .ref g31, .ref g32, .ref g33])), (g3, .inl (T 0, 900, .inl ft))] H locs := V
                          show W p l e _ s m args below meth c H locs _ _ _ (F0 m 160 ls [.int (nI 0)])
                          refine lv_if_ne (tgt := 168) hx hb dX8_street_160 (by decide) (fun c => absurd (show (nI 0) = 0 by decide +kernel) c) (fun _ => ?_)
                          refine lv_aload_n hx hb dX8_street_163 rfl (lv_at hl 0 rfl) ?_
                          refine lv_iconst (v := (nI 2)) hx hb dX8_street_164 (by decide +kernel) ?_
                          refine g_callV (wr := [(g1, .inl (T 0, 282, .inl fa)), (g4, .inl (T 0, 94, .inl (upd f77 2 z_113))), (g3, .inl (T 0, 900, .inl ft))]) (nA := 1) hC V hl.1 (m_fails l D T o (nI 2) (nI 0) g1 g2 g3 g4 0 a2_114 b2_115 (nI jn) k2_116 n2_117 u2_118 l2_119 w13 w14 g15 w16 g17 w18 w19 g20 w21 g22 g23 g24 w25 w26 w27 g28 g29 w30 g31 g32 g33 (by decide +kernel)) w_1055 w_1057 w_s41 w_9 w_1058 (by decide +kernel) rfl ⟨(Nat.le_of_ble_eq_true rfl), (Nat.le_of_ble_eq_true rfl)⟩ 2 (ci := 8) rfl rfl [2] [0, 1, 3] rfl rfl rfl rfl (by decide) (Nat.le_of_ble_eq_true rfl) dX8_street_165 ⟨(Nat.le_of_ble_eq_true rfl), (Nat.le_of_ble_eq_true rfl)⟩ rfl (fun r w1 H locs hQ V => ?_)
                          obtain ⟨u2_133, l2_134, rfl, rfl, f_135⟩ := hQ
                          have V : gW D T A s [(g1, .inl (T 0, 282, .inl fa)), (g4, .inl (T 0, 94, .inl (upd f77 2 z_113))), (g3, .inl (T 0, 900, .inl ft)), (o, .inr (8, [.int (nI 0), .ref g1, .ref g2, .ref g3, .ref g4, .int (nI 0), .int (nI a2_114), .int (nI b2_115), .int (nI jn), .int k2_116, .int n2_117, .int u2_133, .int l2_134, .int w13, .int w14, .ref g15, .int w16, .ref g17, .int w18, .int w19, .ref g20, .int w21, .ref g22, .ref g23, .ref g24, .int w25, .int w26, .int w27, .ref g28, .ref g29, .int w30, .ref g31, .ref g32, .ref g33]))] H locs := V
                          show W p l e _ s m args below meth c H locs _ _ _ (F0 m 168 ls [])
                          refine lv_aload_n hx hb dX8_street_168 rfl (lv_at hl 0 rfl) ?_
                          refine g_get hC V (ci := 8) uwX8 3 rfl rfl 4 (by decide) w_916 rfl rfl dX8_street_169 ?_
                          refine lv_iconst (v := (nI 3)) hx hb dX8_street_172 (by decide +kernel) ?_
                          refine lv_dup2_11 hx hb dX8_street_173 rfl rfl ?_
                          refine g_iald hC V 1 rfl (vp_in_nI (by decide) (by decide)) (v := ((upd f77 2 z_113) 3)) (congrArg _ (nI_clamp (by decide))) dX8_street_174 ?_
                          refine lv_iconst (v := (nI 1)) hx hb dX8_street_175 (by decide +kernel) ?_
                          refine lv_iadd hx hb dX8_street_176 ?_
                          refine g_iast hC V 1 rfl (vp_in_nI (by decide) (by decide)) (f' := (upd (upd f77 2 z_113) 3 (((upd f77 2 z_113) 3) + (nI 1)))) (by rw [nI_clamp (by decide)]) (ws' := [(g1, .inl (T 0, 282, .inl fa)), (g4, .inl (T 0, 94, .inl (upd (upd f77 2 z_113) 3 (((upd f77 2 z_113) 3) + (nI 1))))), (g3, .inl (T 0, 900, .inl ft)), (o, .inr (8, [.int (nI 0), .ref g1, .ref g2, .ref g3, .ref g4, .int (nI 0), .int (nI a2_114), .int (nI b2_115), .int (nI jn), .int k2_116, .int n2_117, .int u2_133, .int l2_134, .int w13, .int w14, .ref g15, .int w16, .ref g17, .int w18, .int w19, .ref g20, .int w21, .ref g22, .ref g23, .ref g24, .int w25, .int w26, .int w27, .ref g28, .ref g29, .int w30, .ref g31, .ref g32, .ref g33]))]) rfl dX8_street_177 (fun H locs V => ?_)
                          refine lv_goto (tgt := 77) hx hb dX8_street_178 (by decide) ?_
                          exact ih_77 a2_114 b2_115 k2_116 n2_117 u2_133 l2_134 (upd (upd f77 2 z_113) 3 (((upd f77 2 z_113) 3) + (nI 1))) nq (fun h => absurd h (by assumption)) (by omega) (Nat.lt_of_lt_of_le (rd_dec hw0 hk11 (by omega) (Or.inl (by assumption))) (Nat.le_of_lt_succ hmu_77)) _ _ _ (V.sub [0, 1, 3, 2] rfl rfl) (lv_sub hl [0, 1] rfl)
                      · have V : gW D T A s [(g1, .inl (T 0, 282, .inl fa)), (g4, .inl (T 0, 94, .inl f77)), (o, .inr (8, [.int (nI 0), .ref g1, .ref g2, .ref g3, .ref g4, .int (nI 0), .int (nI aq), .int (nI bq), .int (nI jn), .int kv, .int nv, .int wv, .int wav, .int w13, .int w14, .ref g15, .int w16, .ref g17, .int w18, .int w19, .ref g20, .int w21, .ref g22, .ref g23, .ref g24, .int w25, .int w26, .int w27, .ref g28, .ref g29, .int w30, .ref g31, .ref g32, .ref g33])), (g3, .inl (T 0, 900, .inl ft))] H locs := V
                        show W p l e _ s m args below meth c H locs _ _ _ (F0 m 130 ls [.int (nI 0)])
                        refine lv_if_eq (tgt := 149) hx hb dX8_street_130 (by decide) (fun _ => ?_) (fun c => absurd (show (nI 0) = 0 by decide +kernel) c)
                        refine lv_aload_n hx hb dX8_street_149 rfl (lv_at hl 0 rfl) ?_
                        refine lv_iconst (v := (nI 2)) hx hb dX8_street_150 (by decide +kernel) ?_
                        refine g_callV (wr := [(g1, .inl (T 0, 282, .inl fa)), (g4, .inl (T 0, 94, .inl f77)), (g3, .inl (T 0, 900, .inl ft))]) (nA := 1) hC V hl.1 (m_fails l D T o (nI 2) (nI 0) g1 g2 g3 g4 0 aq bq (nI jn) kv nv wv wav w13 w14 g15 w16 g17 w18 w19 g20 w21 g22 g23 g24 w25 w26 w27 g28 g29 w30 g31 g32 g33 (by decide +kernel)) w_1055 w_1057 w_s41 w_9 w_1058 (by decide +kernel) rfl ⟨(Nat.le_of_ble_eq_true rfl), (Nat.le_of_ble_eq_true rfl)⟩ 2 (ci := 8) rfl rfl [2] [0, 1, 3] rfl rfl rfl rfl (by decide) (Nat.le_of_ble_eq_true rfl) dX8_street_151 ⟨(Nat.le_of_ble_eq_true rfl), (Nat.le_of_ble_eq_true rfl)⟩ rfl (fun r w1 H locs hQ V => ?_)
                        obtain ⟨u2_136, l2_137, rfl, rfl, f_138⟩ := hQ
                        have V : gW D T A s [(g1, .inl (T 0, 282, .inl fa)), (g4, .inl (T 0, 94, .inl f77)), (g3, .inl (T 0, 900, .inl ft)), (o, .inr (8, [.int (nI 0), .ref g1, .ref g2, .ref g3, .ref g4, .int (nI 0), .int (nI aq), .int (nI bq), .int (nI jn), .int kv, .int nv, .int u2_136, .int l2_137, .int w13, .int w14, .ref g15, .int w16, .ref g17, .int w18, .int w19, .ref g20, .int w21, .ref g22, .ref g23, .ref g24, .int w25, .int w26, .int w27, .ref g28, .ref g29, .int w30, .ref g31, .ref g32, .ref g33]))] H locs := V
                        show W p l e _ s m args below meth c H locs _ _ _ (F0 m 154 ls [])
                        refine lv_aload_n hx hb dX8_street_154 rfl (lv_at hl 0 rfl) ?_
                        refine lv_bipush (v := (nI 10)) hx hb dX8_street_155 (by decide +kernel) ?_
                        refine g_callV (wr := [(g1, .inl (T 0, 282, .inl fa)), (g4, .inl (T 0, 94, .inl f77))]) (nA := 1) hC V hl.1 (m_eats l D T o (nI 10) (nI 0) g1 g2 g3 g4 0 aq bq jn kv nv u2_136 l2_137 w13 w14 g15 w16 g17 w18 w19 g20 w21 g22 g23 g24 w25 w26 w27 g28 g29 w30 g31 g32 g33 ft (by first | assumption | omega) (by first | assumption | omega)) w_1067 w_1069 w_s44 w_9 w_1070 (by decide +kernel) rfl ⟨(Nat.le_of_ble_eq_true rfl), (Nat.le_of_ble_eq_true rfl)⟩ 3 (ci := 8) rfl rfl [3, 2] [0, 1] rfl rfl rfl rfl (by decide) (Nat.le_of_ble_eq_true rfl) dX8_street_157 ⟨(Nat.le_of_ble_eq_true rfl), (Nat.le_of_ble_eq_true rfl)⟩ rfl (fun r w1 H locs hQ V => ?_)
                        rcases hQ with ⟨a2_139, b2_140, k2_141, n2_142, rfl, rfl, f_143, f_144, f_145, f_146, f_147⟩ | ⟨rfl, rfl⟩
                        · have V : gW D T A s [(g1, .inl (T 0, 282, .inl fa)), (g4, .inl (T 0, 94, .inl f77)), (o, .inr (8, [.int (nI 0), .ref g1, .ref g2, .ref g3, .ref g4, .int (nI 0), .int (nI a2_139), .int (nI b2_140), .int (nI jn), .int k2_141, .int n2_142, .int u2_136, .int l2_137, .int w13, .int w14, .ref g15, .int w16, .ref g17, .int w18, .int w19, .ref g20, .int w21, .ref g22, .ref g23, .ref g24, .int w25, .int w26, .int w27, .ref g28, .ref g29, .int w30, .ref g31, .ref g32, .ref g33])), (g3, .inl (T 0, 900, .inl ft))] H locs := V
                          show W p l e _ s m args below meth c H locs _ _ _ (F0 m 160 ls [.int (nI 1)])
                          exact absurd f_144 (by assumption)
                        · have V : gW D T A s [(g1, .inl (T 0, 282, .inl fa)), (g4, .inl (T 0, 94, .inl f77)), (o, .inr (8, [.int (nI 0), .ref g1, .ref g2, .ref g3, .ref g4, .int (nI 0), .int (nI aq), .int (nI bq), .int (nI jn), .int kv, .int nv, .int u2_136, .int l2_137, .int w13, .int w14, .ref g15, .int w16, .ref g17, .int w18, .int w19, .ref g20, .int w21, .ref g22, .ref g23, .ref g24, .int w25, .int w26, .int w27, .ref g28, .ref g29, .int w30, .ref g31, .ref g32, .ref g33])), (g3, .inl (T 0, 900, .inl ft))] H locs := V
                          show W p l e _ s m args below meth c H locs _ _ _ (F0 m 160 ls [.int (nI 0)])
                          refine lv_if_ne (tgt := 168) hx hb dX8_street_160 (by decide) (fun c => absurd (show (nI 0) = 0 by decide +kernel) c) (fun _ => ?_)
                          refine lv_aload_n hx hb dX8_street_163 rfl (lv_at hl 0 rfl) ?_
                          refine lv_iconst (v := (nI 2)) hx hb dX8_street_164 (by decide +kernel) ?_
                          refine g_callV (wr := [(g1, .inl (T 0, 282, .inl fa)), (g4, .inl (T 0, 94, .inl f77)), (g3, .inl (T 0, 900, .inl ft))]) (nA := 1) hC V hl.1 (m_fails l D T o (nI 2) (nI 0) g1 g2 g3 g4 0 aq bq (nI jn) kv nv u2_136 l2_137 w13 w14 g15 w16 g17 w18 w19 g20 w21 g22 g23 g24 w25 w26 w27 g28 g29 w30 g31 g32 g33 (by decide +kernel)) w_1055 w_1057 w_s41 w_9 w_1058 (by decide +kernel) rfl ⟨(Nat.le_of_ble_eq_true rfl), (Nat.le_of_ble_eq_true rfl)⟩ 2 (ci := 8) rfl rfl [2] [0, 1, 3] rfl rfl rfl rfl (by decide) (Nat.le_of_ble_eq_true rfl) dX8_street_165 ⟨(Nat.le_of_ble_eq_true rfl), (Nat.le_of_ble_eq_true rfl)⟩ rfl (fun r w1 H locs hQ V => ?_)
                          obtain ⟨u2_148, l2_149, rfl, rfl, f_150⟩ := hQ
                          have V : gW D T A s [(g1, .inl (T 0, 282, .inl fa)), (g4, .inl (T 0, 94, .inl f77)), (g3, .inl (T 0, 900, .inl ft)), (o, .inr (8, [.int (nI 0), .ref g1, .ref g2, .ref g3, .ref g4, .int (nI 0), .int (nI aq), .int (nI bq), .int (nI jn), .int kv, .int nv, .int u2_148, .int l2_149, .int w13, .int w14, .ref g15, .int w16, .ref g17, .int w18, .int w19, .ref g20, .int w21, .ref g22, .ref g23, .ref g24, .int w25, .int w26, .int w27, .ref g28, .ref g29, .int w30, .ref g31, .ref g32, .ref g33]))] H locs := V
                          show W p l e _ s m args below meth c H locs _ _ _ (F0 m 168 ls [])
                          refine lv_aload_n hx hb dX8_street_168 rfl (lv_at hl 0 rfl) ?_
                          refine g_get hC V (ci := 8) uwX8 3 rfl rfl 4 (by decide) w_916 rfl rfl dX8_street_169 ?_
                          refine lv_iconst (v := (nI 3)) hx hb dX8_street_172 (by decide +kernel) ?_
                          refine lv_dup2_11 hx hb dX8_street_173 rfl rfl ?_
                          refine g_iald hC V 1 rfl (vp_in_nI (by decide) (by decide)) (v := (f77 3)) (congrArg _ (nI_clamp (by decide))) dX8_street_174 ?_
                          refine lv_iconst (v := (nI 1)) hx hb dX8_street_175 (by decide +kernel) ?_
                          refine lv_iadd hx hb dX8_street_176 ?_
                          refine g_iast hC V 1 rfl (vp_in_nI (by decide) (by decide)) (f' := (upd f77 3 ((f77 3) + (nI 1)))) (by rw [nI_clamp (by decide)]) (ws' := [(g1, .inl (T 0, 282, .inl fa)), (g4, .inl (T 0, 94, .inl (upd f77 3 ((f77 3) + (nI 1))))), (g3, .inl (T 0, 900, .inl ft)), (o, .inr (8, [.int (nI 0), .ref g1, .ref g2, .ref g3, .ref g4, .int (nI 0), .int (nI aq), .int (nI bq), .int (nI jn), .int kv, .int nv, .int u2_148, .int l2_149, .int w13, .int w14, .ref g15, .int w16, .ref g17, .int w18, .int w19, .ref g20, .int w21, .ref g22, .ref g23, .ref g24, .int w25, .int w26, .int w27, .ref g28, .ref g29, .int w30, .ref g31, .ref g32, .ref g33]))]) rfl dX8_street_177 (fun H locs V => ?_)
                          refine lv_goto (tgt := 77) hx hb dX8_street_178 (by decide) ?_
                          exact ih_77 aq bq kv nv u2_148 l2_149 (upd f77 3 ((f77 3) + (nI 1))) nq (fun h => absurd h (by assumption)) (by omega) (Nat.lt_of_lt_of_le (rd_dec hw0 hk11 (by omega) (Or.inl (by assumption))) (Nat.le_of_lt_succ hmu_77)) _ _ _ (V.sub [0, 1, 3, 2] rfl rfl) (lv_sub hl [0, 1] rfl)
          exact L_13 _ a2_6 b2_7 k2_8 n2_9 (nI 0) w12 f44 0 (fun _ => hfr0) (by omega) (Nat.lt_succ_self _) _ _ _ V (lv_sub hl [1, 2] rfl)
        · skip
          have c_5 := b_nle (by omega) (by omega) c_5
          refine lv_aload_n hx hb dX8_street_50 rfl (lv_at hl 1 rfl) ?_
          refine g_get hC V (ci := 8) uwX8 0 rfl rfl 4 (by decide) w_916 rfl rfl dX8_street_51 ?_
          refine lv_iload_n hx hb dX8_street_54 rfl (lv_at hl 0 rfl) ?_
          refine lv_iload_n hx hb dX8_street_55 rfl (lv_at hl 0 rfl) ?_
          refine lv_iconst (v := (nI 2)) hx hb dX8_street_56 (by decide +kernel) ?_
          refine lv_icmp_ne (tgt := 65) hx hb dX8_street_57 (by decide) (fun c_151 => ?_) (fun c_151 => ?_)
          · skip
            have c_151 := b_ne (by omega) (by omega) c_151
            refine lv_iconst (v := (nI 0)) hx hb dX8_street_65 (by decide +kernel) ?_
            refine g_iast hC V 3 rfl (vp_in_nI (by omega) (by omega)) (f' := (upd f44 k44 (nI 0))) (by rw [nI_clamp (by omega)]) (ws' := [(o, .inr (8, [.int (nI 0), .ref g1, .ref g2, .ref g3, .ref g4, .int (nI 0), .int w6, .int (nI 0), .int (nI jn), .int w9, .int w10, .int (nI 0), .int w12, .int w13, .int w14, .ref g15, .int w16, .ref g17, .int w18, .int w19, .ref g20, .int w21, .ref g22, .ref g23, .ref g24, .int w25, .int w26, .int w27, .ref g28, .ref g29, .int w30, .ref g31, .ref g32, .ref g33])), (g1, .inl (T 0, 282, .inl fa)), (g3, .inl (T 0, 900, .inl ft)), (g4, .inl (T 0, 94, .inl (upd f44 k44 (nI 0))))]) rfl dX8_street_66 (fun H locs V => ?_)
            refine lv_iinc (v := (nI (k44 + 1))) (lv' := [(2, .int (nI (k44 + 1))), (0, .ref o), (1, .int (nI jn))]) hx hb dX8_street_67 hl (k := 0) rfl (nI_1 _) (by decide) rfl (fun ls hl => ?_)
            refine lv_goto (tgt := 44) hx hb dX8_street_70 (by decide) ?_
            exact ih_44 (k44 + 1) (upd f44 k44 (nI 0)) (by omega) (up_one (p := fun j y => y = if j = 2 then nI 20 else nI 0) hf44 (by first | (rw [if_pos (by omega)]; done) | (rw [if_neg (by omega)]; done))) (by omega) _ _ _ V (lv_sub hl [0, 1, 2] rfl)
          · skip
            have c_151 := b_eq (by omega) (by omega) c_151
            refine lv_bipush (v := (nI 20)) hx hb dX8_street_60 (by decide +kernel) ?_
            refine lv_goto (tgt := 66) hx hb dX8_street_62 (by decide) ?_
            refine g_iast hC V 3 rfl (vp_in_nI (by omega) (by omega)) (f' := (upd f44 k44 (nI 20))) (by rw [nI_clamp (by omega)]) (ws' := [(o, .inr (8, [.int (nI 0), .ref g1, .ref g2, .ref g3, .ref g4, .int (nI 0), .int w6, .int (nI 0), .int (nI jn), .int w9, .int w10, .int (nI 0), .int w12, .int w13, .int w14, .ref g15, .int w16, .ref g17, .int w18, .int w19, .ref g20, .int w21, .ref g22, .ref g23, .ref g24, .int w25, .int w26, .int w27, .ref g28, .ref g29, .int w30, .ref g31, .ref g32, .ref g33])), (g1, .inl (T 0, 282, .inl fa)), (g3, .inl (T 0, 900, .inl ft)), (g4, .inl (T 0, 94, .inl (upd f44 k44 (nI 20))))]) rfl dX8_street_66 (fun H locs V => ?_)
            refine lv_iinc (v := (nI (k44 + 1))) (lv' := [(2, .int (nI (k44 + 1))), (0, .ref o), (1, .int (nI jn))]) hx hb dX8_street_67 hl (k := 0) rfl (nI_1 _) (by decide) rfl (fun ls hl => ?_)
            refine lv_goto (tgt := 44) hx hb dX8_street_70 (by decide) ?_
            exact ih_44 (k44 + 1) (upd f44 k44 (nI 20)) (by omega) (up_one (p := fun j y => y = if j = 2 then nI 20 else nI 0) hf44 (by first | (rw [if_pos (by omega)]; done) | (rw [if_neg (by omega)]; done))) (by omega) _ _ _ V (lv_sub hl [0, 1, 2] rfl)
    exact L_4 _ 0 ff (by omega) (fun i h => absurd h (Nat.not_lt_zero _)) (Nat.lt_succ_self _) _ _ _ V (lv_sub hl [0, 1, 2] rfl)
  · have V : gW D T A s [(o, .inr (8, [.int (nI 0), .ref g1, .ref g2, .ref g3, .ref g4, .int (nI tp), .int w6, .int w7, .int w8, .int w9, .int w10, .int w11, .int w12, .int w13, .int w14, .ref g15, .int w16, .ref g17, .int w18, .int w19, .ref g20, .int w21, .ref g22, .ref g23, .ref g24, .int w25, .int w26, .int w27, .ref g28, .ref g29, .int w30, .ref g31, .ref g32, .ref g33])), (g1, .inl (T 0, 282, .inl fa)), (g3, .inl (T 0, 900, .inl ft)), (g4, .inl (T 0, 94, .inl ff))] H locs := V
    show W p l e _ s m args below meth c H locs _ _ _ (F0 m 16 ls [.int (nI 0)])
    refine lv_if_ne (tgt := 22) hx hb dX8_street_16 (by decide) (fun c => absurd (show (nI 0) = 0 by decide +kernel) c) (fun _ => ?_)
    refine lv_bipush (v := (-3)) hx hb dX8_street_19 (by decide +kernel) ?_
    exact g_iret (Qr := (q_m_street T n o n_ w0 g1 g2 g3 g4 tp w6 w7 w8 w9 w10 w11 w12 w13 w14 g15 w16 g17 w18 w19 g20 w21 g22 g23 g24 w25 w26 w27 g28 g29 w30 g31 g32 g33 fa ft ff)) hC V ⟨(Nat.le_of_ble_eq_true rfl), (Nat.le_of_ble_eq_true rfl)⟩ ⟨(-3), tp, w6, w7, w8, w9, w10, w11, w12, w13, w14, fa, ff, n, rfl, rfl, (sr_1 (by assumption)), h_a, (fun _ _ => rfl)⟩ dX8_street_21
