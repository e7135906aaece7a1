theorem nI_div {a b : Nat} (ha : a < 2147483648) (hb : b < 1073741824) : nI a / nI b = nI (a / b) := by
  apply Int32.toInt_inj.mp
  rw [Int32.toInt_div, nI_toInt ha, nI_toInt (by omega), nI_toInt (Nat.lt_of_le_of_lt (Nat.div_le_self _ _) ha)]
  have h1 : (a : Int).tdiv (b : Int) = ((a / b : Nat) : Int) := by rw [Int.tdiv_eq_ediv_of_nonneg (by omega)]; rfl
  rw [h1]
  have h2 : a / b ≤ a := Nat.div_le_self _ _
  generalize a / b = q at h2 ⊢
  apply Int.bmod_eq_of_le <;> omega
theorem nI_rem {a b : Nat} (ha : a < 2147483648) (hb : b < 1073741824) : nI a - nI a / nI b * nI b = nI (a % b) := by
  rw [nI_div ha hb, pk_mul]
  have h1 : a = a % b + a / b * b := by rw [Nat.mul_comm]; exact (Nat.mod_add_div a b).symm
  have h2 : nI a = nI (a % b) + nI (a / b * b) := by rw [nI_add, ← h1]
  rw [h2, Int32.add_sub_cancel]
theorem st_end {s k n : Nat} (h : s < stB k) (e : k = n) : s < stB n := e ▸ h
theorem st_s {s h a k : Nat} (hs : s < stB k) (hh : h < 256) (ha : a < 32) : 8192 * s + 32 * h + a < stB (k + 1) := by rw [stB_s]; omega
/-- how many of the first m are not 0 -/
def cntNZ (f : Nat → Int32) : Nat → Nat
  | 0 => 0
  | m + 1 => cntNZ f m + (if f m = nI 0 then 0 else 1)
theorem cnt_all {f : Nat → Int32} : ∀ m, (∀ i, i < m → ¬ f i = nI 0) → cntNZ f m = m
  | 0, _ => rfl
  | m + 1, h => by
    show cntNZ f m + _ = m + 1
    rw [cnt_all m (fun i hi => h i (by omega)), if_neg (h m (by omega))]
theorem cnt_free {f : Nat → Int32} {m : Nat} (h : cntNZ f m < m) : ∃ z, z < m ∧ f z = nI 0 := by
  apply Classical.byContradiction
  intro hn
  have := cnt_all m (fun i hi e => hn ⟨i, hi, e⟩)
  omega
theorem cnt_up (f : Nat → Int32) (k : Nat) (x : Int32) : ∀ m, cntNZ (upd f k x) m ≤ cntNZ f m + (if k < m then 1 else 0)
  | 0 => by simp [cntNZ]
  | m + 1 => by
    have ih := cnt_up f k x m
    show cntNZ (upd f k x) m + (if upd f k x m = nI 0 then 0 else 1) ≤ cntNZ f m + (if f m = nI 0 then 0 else 1) + _
    by_cases e : m = k
    · subst e
      rw [if_neg (Nat.lt_irrefl m)] at ih
      rw [if_pos (Nat.lt_succ_self m)]
      split <;> split <;> omega
    · rw [up_other e]
      have : (if k < m + 1 then 1 else 0) = (if k < m then 1 else 0) := by
        by_cases c : k < m
        · rw [if_pos c, if_pos (by omega)]
        · rw [if_neg c, if_neg (by omega)]
      rw [this]
      split <;> omega
theorem cnt_zero {f : Nat → Int32} : ∀ m, (∀ i, i < m → f i = nI 0) → cntNZ f m = 0
  | 0, _ => rfl
  | m + 1, h => by
    show cntNZ f m + _ = 0
    rw [cnt_zero m (fun i hi => h i (by omega)), if_pos (h m (by omega))]
/-- the reference's table of sm states -/
def TI (sm : Nat) (f : Nat → Int32) : Prop := sm ≤ 3001 ∧ (∀ i, i < 8192 → bd (f i) (sm + 1)) ∧ cntNZ f 8192 ≤ sm
theorem ti_bd {sm i : Nat} {f : Nat → Int32} (h : TI sm f) (hi : i < 8192) : bd (f i) (sm + 1) := h.2.1 i hi
theorem ti_free {sm : Nat} {f : Nat → Int32} (h : TI sm f) : ∃ z, z < 8192 ∧ f z = nI 0 := cnt_free (Nat.lt_of_le_of_lt h.2.2 (by have := h.1; omega))
theorem ti_put {sm k : Nat} {f : Nat → Int32} (h : TI sm f) (hs : sm < 3001) : TI (sm + 1) (upd f k (nI (sm + 1))) := by
  refine ⟨by omega, up_all (p := fun x => bd x (sm + 1 + 1)) (fun i hi => bd_le (h.2.1 i hi) (by omega)) (fun _ => bd_nI (by omega)), ?_⟩
  have := cnt_up f k (nI (sm + 1)) 8192
  have h2 := h.2.2
  split at this <;> omega
theorem ti_zero {f : Nat → Int32} (h : ∀ i, i < 8192 → f i = nI 0) : TI 0 f := ⟨by decide, fun i hi => by rw [h i hi]; exact bd_nI (by decide), by rw [cnt_zero 8192 h]; exact Nat.le_refl _⟩
/-- the states that were met -/
def SL (sm : Nat) (f : Nat → Int64) : Prop := ∀ i, i < sm → bl (f i) 549755813889
theorem sl_put {sm : Nat} {f : Nat → Int64} {x : Nat} (h : SL sm f) (hx : x < 549755813889) : SL (sm + 1) (vp_updL f sm (Int64.ofNat x)) := upL_one (p := fun _ y => bl y 549755813889) h ⟨x, hx, rfl⟩
theorem nz_of {f : Nat → Int32} {k z j : Nat} (hz : f z = nI 0) (e : f k = nI j) (hj : j < 5000) (hp : 0 < j) : k ≠ z := by
  rintro rfl
  have := b_eq (by omega) (by decide) (e.symm.trans hz)
  omega

def q_m_state (T : Nat → ClassId) (n : Nat) (o : Nat) (w0 : Int32) (g1 : Nat) (g2 : Nat) (g3 : Nat) (g4 : Nat) (tp : Nat) (w6 : Int32) (w7 : Int32) (w8 : Int32) (w9 : Int32) (w10 : Int32) (w11 : Int32) (w12 : Int32) (w13 : Int32) (w14 : Int32) (g15 : Nat) (w16 : Int32) (g17 : Nat) (w18 : Int32) (w19 : Int32) (g20 : Nat) (w21 : Int32) (g22 : Nat) (g23 : Nat) (g24 : Nat) (w25 : Int32) (w26 : Int32) (w27 : Int32) (g28 : Nat) (g29 : Nat) (w30 : Int32) (g31 : Nat) (g32 : Nat) (g33 : Nat) (fa : Nat → Int32) : Option Value → va_W → Prop := fun rr ww => (∃ (r : Nat), rr = some (.long (Int64.ofNat r)) ∧ ww = [(o, .inr (8, [.int w0, .ref g1, .ref g2, .ref g3, .ref g4, .int (nI tp), .int w6, .int w7, .int w8, .int w9, .int w10, .int w11, .int w12, .int w13, .int w14, .ref g15, .int w16, .ref g17, .int w18, .int w19, .ref g20, .int w21, .ref g22, .ref g23, .ref g24, .int w25, .int w26, .int w27, .ref g28, .ref g29, .int w30, .ref g31, .ref g32, .ref g33])), (g1, .inl (T 0, 282, .inl fa))] ∧ r < stB n)
set_option maxHeartbeats 4000000 in
set_option maxRecDepth 100000 in
theorem m_state (l : Launch) (D : va_G) (T : Nat → ClassId) (n : Nat) (o : Nat) (w0 : Int32) (g1 : Nat) (g2 : Nat) (g3 : Nat) (g4 : Nat) (tp : Nat) (w6 : Int32) (w7 : Int32) (w8 : Int32) (w9 : Int32) (w10 : Int32) (w11 : Int32) (w12 : Int32) (w13 : Int32) (w14 : Int32) (g15 : Nat) (w16 : Int32) (g17 : Nat) (w18 : Int32) (w19 : Int32) (g20 : Nat) (w21 : Int32) (g22 : Nat) (g23 : Nat) (g24 : Nat) (w25 : Int32) (w26 : Int32) (w27 : Int32) (g28 : Nat) (g29 : Nat) (w30 : Int32) (g31 : Nat) (g32 : Nat) (g33 : Nat) (fa : Nat → Int32) (h_a : MI n fa) (h_3 : n ≤ 3) : Ct l yX8_state cX8_state 4 (some .long) 0 0 0 D T [.ref o] [(o, .inr (8, [.int w0, .ref g1, .ref g2, .ref g3, .ref g4, .int (nI tp), .int w6, .int w7, .int w8, .int w9, .int w10, .int w11, .int w12, .int w13, .int w14, .ref g15, .int w16, .ref g17, .int w18, .int w19, .ref g20, .int w21, .ref g22, .ref g23, .ref g24, .int w25, .int w26, .int w27, .ref g28, .ref g29, .int w30, .ref g31, .ref g32, .ref g33])), (g1, .inl (T 0, 282, .inl fa))] (q_m_state T n o w0 g1 g2 g3 g4 tp w6 w7 w8 w9 w10 w11 w12 w13 w14 g15 w16 g17 w18 w19 g20 w21 g22 g23 g24 w25 w26 w27 g28 g29 w30 g31 g32 g33 fa) := by
  refine Ct.of (cc := cX8_state) (maxL := 4) (ret := (some .long)) (by decide) (Nat.le_of_ble_eq_true rfl) ?_
  intro p e s m args below meth c A ls hC hnm V hl
  obtain ⟨hx, hb, hr, hml, hown, hts, hlocks⟩ := id hC
  generalize hH : s.heap = H at V ⊢
  clear hH
  have hl : lv_has ls 4 [(0, .ref o)] := hl
  generalize hlo : ([] : List Loc) = locs at V ⊢
  clear hlo
  have ms0 := ms_rf h_a
  have hn10 := h_a.1
  have hst := stB_le h_3
  refine lv_lconst (v := (nI 0).toInt64) hx hb dX8_state_0 (by decide +kernel) ?_
  refine g_vl (y := Int64.ofNat 0) (by decide +kernel) ?_
  refine lv_lstore_n (lv' := [(1, .long (Int64.ofNat 0)), (0, .ref o)]) hx hb dX8_state_1 rfl hl (by decide) rfl (fun ls hl => ?_)
  refine lv_iconst (v := (nI 0)) hx hb dX8_state_2 (by decide +kernel) ?_
  refine lv_istore_n (lv' := [(3, .int (nI 0)), (1, .long (Int64.ofNat 0)), (0, .ref o)]) hx hb dX8_state_3 rfl hl (by decide) rfl (fun ls hl => ?_)
  have L_1 : ∀ (fu : Nat) (k4 : Nat) (sv : Nat), k4 ≤ n → sv < stB k4 → n - k4 < fu → ∀ (H : Heap) (locs : List Loc) (ls : Array Slot), gW D T A s [(o, .inr (8, [.int w0, .ref g1, .ref g2, .ref g3, .ref g4, .int (nI tp), .int w6, .int w7, .int w8, .int w9, .int w10, .int w11, .int w12, .int w13, .int w14, .ref g15, .int w16, .ref g17, .int w18, .int w19, .ref g20, .int w21, .ref g22, .ref g23, .ref g24, .int w25, .int w26, .int w27, .ref g28, .ref g29, .int w30, .ref g31, .ref g32, .ref g33])), (g1, .inl (T 0, 282, .inl fa))] H locs → lv_has ls 4 [(3, .int (nI k4)), (1, .long (Int64.ofNat sv)), (0, .ref o)] → W p l e (rmD 0 0 0) s m args below meth c H locs 0 0 (MQ below (gQ D A (q_m_state T n o w0 g1 g2 g3 g4 tp w6 w7 w8 w9 w10 w11 w12 w13 w14 g15 w16 g17 w18 w19 g20 w21 g22 g23 g24 w25 w26 w27 g28 g29 w30 g31 g32 g33 fa)) args s 0 0 A) (F0 m 4 ls []) := by
    intro fu_4
    induction fu_4 with
    | zero => intro k4 sv hk4 hsv hmu; exact absurd hmu (Nat.not_lt_zero _)
    | succ fu_4 ih_4 =>
      intro k4 sv hk4 hsv hmu_4 H locs ls V hl
      refine lv_iload_n hx hb dX8_state_4 rfl (lv_at hl 0 rfl) ?_
      refine lv_aload_n hx hb dX8_state_5 rfl (lv_at hl 2 rfl) ?_
      refine g_get hC V (ci := 8) uwX8 0 rfl rfl 1 (by decide) w_913 rfl rfl dX8_state_6 ?_
      refine lv_iconst (v := (nI 0)) hx hb dX8_state_9 (by decide +kernel) ?_
      refine g_iald hC V 1 rfl (vp_in_nI (by decide) (by decide)) (v := (nI n)) (by rw [nI_clamp (by decide)]; first | rfl | exact h_a.2.1) dX8_state_10 ?_
      refine lv_icmp_ge (tgt := 51) hx hb dX8_state_11 (by decide) (fun c_2 => ?_) (fun c_2 => ?_)
      · skip
        have c_2 := b_le (by omega) (by omega) c_2
        refine lv_lload_n hx hb dX8_state_51 rfl (lv_at hl 1 rfl) ?_
        exact g_lret (Qr := (q_m_state T n o w0 g1 g2 g3 g4 tp w6 w7 w8 w9 w10 w11 w12 w13 w14 g15 w16 g17 w18 w19 g20 w21 g22 g23 g24 w25 w26 w27 g28 g29 w30 g31 g32 g33 fa)) hC V ⟨(Nat.le_of_ble_eq_true rfl), (Nat.le_of_ble_eq_true rfl)⟩ ⟨sv, rfl, rfl, (st_end hsv (by omega))⟩ dX8_state_52
      · skip
        have c_2 := b_nle (by omega) (by omega) c_2
        refine lv_ldc2 (v := (8192)) hx hb hown (hts _ w_1285) dX8_state_14 ?_
        refine g_vl (y := (nI 8192).toInt64) (by decide +kernel) ?_
        refine lv_lload_n hx hb dX8_state_17 rfl (lv_at hl 1 rfl) ?_
        refine lv_lmul hx hb dX8_state_18 ?_
        refine g_vl (y := Int64.ofNat (8192 * sv)) (by rw [oL_i (a := 8192) (by omega)]; exact oL_mul _ _) ?_
        refine lv_bipush (v := (nI 32)) hx hb dX8_state_19 (by decide +kernel) ?_
        refine lv_aload_n hx hb dX8_state_21 rfl (lv_at hl 2 rfl) ?_
        refine g_get hC V (ci := 8) uwX8 0 rfl rfl 1 (by decide) w_913 rfl rfl dX8_state_22 ?_
        refine lv_bipush (v := (nI 24)) hx hb dX8_state_25 (by decide +kernel) ?_
        refine lv_iload_n hx hb dX8_state_27 rfl (lv_at hl 0 rfl) ?_
        refine lv_iadd hx hb dX8_state_28 ?_
        refine g_vi (y := (nI (24 + k4))) (nI_add _ _) ?_
        obtain ⟨j_3, hj_3, ej_3⟩ := bd_ex (mi_heat h_a (i := k4) (by omega))
        refine g_iald hC V 1 rfl (vp_in_nI (by omega) (by omega)) (v := (nI j_3)) (by rw [nI_clamp (by omega)]; exact ej_3) dX8_state_29 ?_
        refine lv_imul hx hb dX8_state_30 ?_
        refine g_vi (y := (nI (32 * j_3))) (pk_mul _ _) ?_
        refine lv_i2l (v := (nI (32 * j_3)).toInt64) hx hb dX8_state_31 rfl ?_
        refine lv_ladd hx hb dX8_state_32 ?_
        refine g_vl (y := Int64.ofNat ((8192 * sv) + (32 * j_3))) (by rw [oL_i (a := (32 * j_3)) (by omega)]; exact oL_add _ _) ?_
        refine lv_aload_n hx hb dX8_state_33 rfl (lv_at hl 2 rfl) ?_
        refine g_get hC V (ci := 8) uwX8 0 rfl rfl 1 (by decide) w_913 rfl rfl dX8_state_34 ?_
        refine lv_bipush (v := (nI 64)) hx hb dX8_state_37 (by decide +kernel) ?_
        refine lv_iload_n hx hb dX8_state_39 rfl (lv_at hl 0 rfl) ?_
        refine lv_iadd hx hb dX8_state_40 ?_
        refine g_vi (y := (nI (64 + k4))) (nI_add _ _) ?_
        obtain ⟨j_4, hj_4, ej_4⟩ := bd_ex (mi_has h_a (i := k4) (by omega))
        refine g_iald hC V 1 rfl (vp_in_nI (by omega) (by omega)) (v := (nI j_4)) (by rw [nI_clamp (by omega)]; exact ej_4) dX8_state_41 ?_
        refine lv_i2l (v := (nI j_4).toInt64) hx hb dX8_state_42 rfl ?_
        refine lv_ladd hx hb dX8_state_43 ?_
        refine g_vl (y := Int64.ofNat (((8192 * sv) + (32 * j_3)) + j_4)) (by rw [oL_i (a := j_4) (by omega)]; exact oL_add _ _) ?_
        refine lv_lstore_n (lv' := [(1, .long (Int64.ofNat (((8192 * sv) + (32 * j_3)) + j_4))), (3, .int (nI k4)), (0, .ref o)]) hx hb dX8_state_44 rfl hl (by decide) rfl (fun ls hl => ?_)
        refine lv_iinc (v := (nI (k4 + 1))) (lv' := [(3, .int (nI (k4 + 1))), (1, .long (Int64.ofNat (((8192 * sv) + (32 * j_3)) + j_4))), (0, .ref o)]) hx hb dX8_state_45 hl (k := 1) rfl (nI_1 _) (by decide) rfl (fun ls hl => ?_)
        refine lv_goto (tgt := 4) hx hb dX8_state_48 (by decide) ?_
        exact ih_4 (k4 + 1) (((8192 * sv) + (32 * j_3)) + j_4) (by omega) (st_s hsv (by omega) (by omega)) (by omega) _ _ _ V (lv_sub hl [0, 1, 2] rfl)
  exact L_1 _ 0 0 (by omega) (stB_1 0) (Nat.lt_succ_self _) _ _ _ V (lv_sub hl [0, 1, 2] rfl)

def q_m_becomes (T : Nat → ClassId) (sv : Nat) (n : Nat) (o : Nat) (w0 : Int32) (g1 : Nat) (g2 : Nat) (g3 : Nat) (g4 : Nat) (tp : Nat) (w6 : Int32) (w7 : Int32) (w8 : Int32) (w9 : Int32) (w10 : Int32) (w11 : Int32) (w12 : Int32) (w13 : Int32) (w14 : Int32) (g15 : Nat) (w16 : Int32) (g17 : Nat) (w18 : Int32) (w19 : Int32) (g20 : Nat) (w21 : Int32) (g22 : Nat) (g23 : Nat) (g24 : Nat) (w25 : Int32) (w26 : Int32) (w27 : Int32) (g28 : Nat) (g29 : Nat) (w30 : Int32) (g31 : Nat) (g32 : Nat) (g33 : Nat) (fa : Nat → Int32) : Option Value → va_W → Prop := fun rr ww => (∃ (ga : Nat → Int32), rr = none ∧ ww = [(o, .inr (8, [.int w0, .ref g1, .ref g2, .ref g3, .ref g4, .int (nI tp), .int w6, .int w7, .int w8, .int w9, .int w10, .int w11, .int w12, .int w13, .int w14, .ref g15, .int w16, .ref g17, .int w18, .int w19, .ref g20, .int w21, .ref g22, .ref g23, .ref g24, .int w25, .int w26, .int w27, .ref g28, .ref g29, .int w30, .ref g31, .ref g32, .ref g33])), (g1, .inl (T 0, 282, .inl ga))] ∧ MS n fa ga)
set_option maxHeartbeats 4000000 in
set_option maxRecDepth 100000 in
theorem m_becomes (l : Launch) (D : va_G) (T : Nat → ClassId) (sv : Nat) (n : Nat) (o : Nat) (w0 : Int32) (g1 : Nat) (g2 : Nat) (g3 : Nat) (g4 : Nat) (tp : Nat) (w6 : Int32) (w7 : Int32) (w8 : Int32) (w9 : Int32) (w10 : Int32) (w11 : Int32) (w12 : Int32) (w13 : Int32) (w14 : Int32) (g15 : Nat) (w16 : Int32) (g17 : Nat) (w18 : Int32) (w19 : Int32) (g20 : Nat) (w21 : Int32) (g22 : Nat) (g23 : Nat) (g24 : Nat) (w25 : Int32) (w26 : Int32) (w27 : Int32) (g28 : Nat) (g29 : Nat) (w30 : Int32) (g31 : Nat) (g32 : Nat) (g33 : Nat) (fa : Nat → Int32) (h_a : MI n fa) (h_sv : sv < 549755813889) : Ct l yX8_becomes cX8_becomes 6 none 0 0 0 D T [.ref o, .long (Int64.ofNat sv)] [(o, .inr (8, [.int w0, .ref g1, .ref g2, .ref g3, .ref g4, .int (nI tp), .int w6, .int w7, .int w8, .int w9, .int w10, .int w11, .int w12, .int w13, .int w14, .ref g15, .int w16, .ref g17, .int w18, .int w19, .ref g20, .int w21, .ref g22, .ref g23, .ref g24, .int w25, .int w26, .int w27, .ref g28, .ref g29, .int w30, .ref g31, .ref g32, .ref g33])), (g1, .inl (T 0, 282, .inl fa))] (q_m_becomes T sv n o w0 g1 g2 g3 g4 tp w6 w7 w8 w9 w10 w11 w12 w13 w14 g15 w16 g17 w18 w19 g20 w21 g22 g23 g24 w25 w26 w27 g28 g29 w30 g31 g32 g33 fa) := by
  refine Ct.of (cc := cX8_becomes) (maxL := 6) (ret := none) (by decide) (Nat.le_of_ble_eq_true rfl) ?_
  intro p e s m args below meth c A ls hC hnm V hl
  obtain ⟨hx, hb, hr, hml, hown, hts, hlocks⟩ := id hC
  generalize hH : s.heap = H at V ⊢
  clear hH
  have hl : lv_has ls 6 [(0, .ref o), (1, .long (Int64.ofNat sv))] := hl
  generalize hlo : ([] : List Loc) = locs at V ⊢
  clear hlo
  have ms0 := ms_rf h_a
  have hn10 := h_a.1
  refine lv_lload_n hx hb dX8_becomes_0 rfl (lv_at hl 1 rfl) ?_
  refine lv_lstore_n (lv' := [(3, .long (Int64.ofNat sv)), (0, .ref o), (1, .long (Int64.ofNat sv))]) hx hb dX8_becomes_1 rfl hl (by decide) rfl (fun ls hl => ?_)
  refine lv_aload_n hx hb dX8_becomes_2 rfl (lv_at hl 1 rfl) ?_
  refine g_get hC V (ci := 8) uwX8 0 rfl rfl 1 (by decide) w_913 rfl rfl dX8_becomes_3 ?_
  refine lv_iconst (v := (nI 0)) hx hb dX8_becomes_6 (by decide +kernel) ?_
  refine g_iald hC V 1 rfl (vp_in_nI (by decide) (by decide)) (v := (nI n)) (by rw [nI_clamp (by decide)]; first | rfl | exact h_a.2.1 | exact hf12.1.2.1) dX8_becomes_7 ?_
  refine lv_iconst (v := (nI 1)) hx hb dX8_becomes_8 (by decide +kernel) ?_
  refine lv_isub hx hb dX8_becomes_9 ?_
  refine lv_istore (lv' := [(5, .int ((nI n) - (nI 1))), (3, .long (Int64.ofNat sv)), (0, .ref o), (1, .long (Int64.ofNat sv))]) hx hb dX8_becomes_10 hl (by decide) rfl (fun ls hl => ?_)
  have L_1 : ∀ (fu : Nat) (iv : Int32) (f12 : Nat → Int32) (kd : Nat) (vq : Nat), MS n fa f12 → iv = nI kd - nI 1 → kd ≤ n → vq < 549755813889 → kd < fu → ∀ (H : Heap) (locs : List Loc) (ls : Array Slot), gW D T A s [(o, .inr (8, [.int w0, .ref g1, .ref g2, .ref g3, .ref g4, .int (nI tp), .int w6, .int w7, .int w8, .int w9, .int w10, .int w11, .int w12, .int w13, .int w14, .ref g15, .int w16, .ref g17, .int w18, .int w19, .ref g20, .int w21, .ref g22, .ref g23, .ref g24, .int w25, .int w26, .int w27, .ref g28, .ref g29, .int w30, .ref g31, .ref g32, .ref g33])), (g1, .inl (T 0, 282, .inl f12))] H locs → lv_has ls 6 [(5, .int iv), (3, .long (Int64.ofNat vq)), (0, .ref o), (1, .long (Int64.ofNat sv))] → W p l e (rmD 0 0 0) s m args below meth c H locs 0 0 (MQ below (gQ D A (q_m_becomes T sv n o w0 g1 g2 g3 g4 tp w6 w7 w8 w9 w10 w11 w12 w13 w14 g15 w16 g17 w18 w19 g20 w21 g22 g23 g24 w25 w26 w27 g28 g29 w30 g31 g32 g33 fa)) args s 0 0 A) (F0 m 12 ls []) := by
    intro fu_12
    induction fu_12 with
    | zero => intro iv f12 kd vq hf12 hiv hkd hq hmu; exact absurd hmu (Nat.not_lt_zero _)
    | succ fu_12 ih_12 =>
      intro iv f12 kd vq hf12 hiv hkd hq hmu_12 H locs ls V hl
      refine lv_iload hx hb dX8_becomes_12 (lv_at hl 0 rfl) ?_
      refine lv_if_lt (tgt := 64) hx hb dX8_becomes_14 (by decide) (fun c_2 => ?_) (fun c_2 => ?_)
      · skip
        exact g_vret (Qr := (q_m_becomes T sv n o w0 g1 g2 g3 g4 tp w6 w7 w8 w9 w10 w11 w12 w13 w14 g15 w16 g17 w18 w19 g20 w21 g22 g23 g24 w25 w26 w27 g28 g29 w30 g31 g32 g33 fa)) hC V ⟨(Nat.le_of_ble_eq_true rfl), (Nat.le_of_ble_eq_true rfl)⟩ ⟨f12, rfl, rfl, (by first | assumption | omega)⟩ dX8_becomes_64
      · skip
        obtain ⟨h1kd, ekd⟩ := dn_pos hiv (by omega) c_2
        rw [ekd] at hl
        refine lv_aload_n hx hb dX8_becomes_17 rfl (lv_at hl 2 rfl) ?_
        refine g_get hC V (ci := 8) uwX8 0 rfl rfl 1 (by decide) w_913 rfl rfl dX8_becomes_18 ?_
        refine lv_bipush (v := (nI 24)) hx hb dX8_becomes_21 (by decide +kernel) ?_
        refine lv_iload hx hb dX8_becomes_23 (lv_at hl 0 rfl) ?_
        refine lv_iadd hx hb dX8_becomes_25 ?_
        refine g_vi (y := (nI (24 + (kd - 1)))) (nI_add _ _) ?_
        refine lv_lload_n hx hb dX8_becomes_26 rfl (lv_at hl 1 rfl) ?_
        refine lv_ldc2 (v := (8192)) hx hb hown (hts _ w_1285) dX8_becomes_27 ?_
        refine g_vl (y := (nI 8192).toInt64) (by decide +kernel) ?_
        refine lv_lrem hx hb dX8_becomes_30 (by decide +kernel) ?_
        refine g_vl (y := Int64.ofNat (vq % 8192)) (by rw [oL_i (a := 8192) (by omega)]; exact oL_rem (by omega) (by omega)) ?_
        refine lv_l2i hx hb dX8_becomes_31 rfl ?_
        refine g_vi (y := (nI (vq % 8192))) (oL_32 (by omega)) ?_
        refine lv_bipush (v := (nI 32)) hx hb dX8_becomes_32 (by decide +kernel) ?_
        refine lv_idiv hx hb dX8_becomes_34 (by decide +kernel) ?_
        refine g_vi (y := (nI ((vq % 8192) / 32))) (nI_div (by omega) (by omega)) ?_
        obtain ⟨f_3, ef_3⟩ : ∃ x, x = upd f12 (24 + (kd - 1)) (nI ((vq % 8192) / 32)) := ⟨_, rfl⟩
        have hf_3 : MS n fa f_3 := by rw [ef_3]; exact ms_st (by assumption) (by omega) (by omega) (by intros; first | (exfalso; omega) | exact bd_nI (by omega) | exact bd_le ‹bd (nI ((vq % 8192) / 32)) _› (by omega) | assumption) (by intros; first | (exfalso; omega) | exact bd_nI (by omega) | exact bd_le ‹bd (nI ((vq % 8192) / 32)) _› (by omega) | assumption) (by intros; first | (exfalso; omega) | exact bd_nI (by omega) | exact bd_le ‹bd (nI ((vq % 8192) / 32)) _› (by omega) | assumption) (by intros; first | (exfalso; omega) | exact bd_nI (by omega) | exact bd_le ‹bd (nI ((vq % 8192) / 32)) _› (by omega) | assumption) (by intros; first | (exfalso; omega) | exact bd_nI (by omega) | exact bd_le ‹bd (nI ((vq % 8192) / 32)) _› (by omega) | assumption) (by intros; first | (exfalso; omega) | exact bd_nI (by omega) | exact bd_le ‹bd (nI ((vq % 8192) / 32)) _› (by omega) | assumption) (by intros; first | (exfalso; omega) | exact bd_nI (by omega) | exact bd_le ‹bd (nI ((vq % 8192) / 32)) _› (by omega) | assumption)
        refine g_iast hC V 1 rfl (vp_in_nI (by omega) (by omega)) (f' := f_3) (by rw [nI_clamp (by omega)]; exact ef_3.symm) (ws' := [(o, .inr (8, [.int w0, .ref g1, .ref g2, .ref g3, .ref g4, .int (nI tp), .int w6, .int w7, .int w8, .int w9, .int w10, .int w11, .int w12, .int w13, .int w14, .ref g15, .int w16, .ref g17, .int w18, .int w19, .ref g20, .int w21, .ref g22, .ref g23, .ref g24, .int w25, .int w26, .int w27, .ref g28, .ref g29, .int w30, .ref g31, .ref g32, .ref g33])), (g1, .inl (T 0, 282, .inl f_3))]) rfl dX8_becomes_35 (fun H locs V => ?_)
        refine lv_aload_n hx hb dX8_becomes_36 rfl (lv_at hl 2 rfl) ?_
        refine g_get hC V (ci := 8) uwX8 0 rfl rfl 1 (by decide) w_913 rfl rfl dX8_becomes_37 ?_
        refine lv_bipush (v := (nI 64)) hx hb dX8_becomes_40 (by decide +kernel) ?_
        refine lv_iload hx hb dX8_becomes_42 (lv_at hl 0 rfl) ?_
        refine lv_iadd hx hb dX8_becomes_44 ?_
        refine g_vi (y := (nI (64 + (kd - 1)))) (nI_add _ _) ?_
        refine lv_lload_n hx hb dX8_becomes_45 rfl (lv_at hl 1 rfl) ?_
        refine lv_ldc2 (v := (32)) hx hb hown (hts _ w_1299) dX8_becomes_46 ?_
        refine g_vl (y := (nI 32).toInt64) (by decide +kernel) ?_
        refine lv_lrem hx hb dX8_becomes_49 (by decide +kernel) ?_
        refine g_vl (y := Int64.ofNat (vq % 32)) (by rw [oL_i (a := 32) (by omega)]; exact oL_rem (by omega) (by omega)) ?_
        refine lv_l2i hx hb dX8_becomes_50 rfl ?_
        refine g_vi (y := (nI (vq % 32))) (oL_32 (by omega)) ?_
        obtain ⟨f_4, ef_4⟩ : ∃ x, x = upd f_3 (64 + (kd - 1)) (nI (vq % 32)) := ⟨_, rfl⟩
        have hf_4 : MS n fa f_4 := by rw [ef_4]; exact ms_st (by assumption) (by omega) (by omega) (by intros; first | (exfalso; omega) | exact bd_nI (by omega) | exact bd_le ‹bd (nI (vq % 32)) _› (by omega) | assumption) (by intros; first | (exfalso; omega) | exact bd_nI (by omega) | exact bd_le ‹bd (nI (vq % 32)) _› (by omega) | assumption) (by intros; first | (exfalso; omega) | exact bd_nI (by omega) | exact bd_le ‹bd (nI (vq % 32)) _› (by omega) | assumption) (by intros; first | (exfalso; omega) | exact bd_nI (by omega) | exact bd_le ‹bd (nI (vq % 32)) _› (by omega) | assumption) (by intros; first | (exfalso; omega) | exact bd_nI (by omega) | exact bd_le ‹bd (nI (vq % 32)) _› (by omega) | assumption) (by intros; first | (exfalso; omega) | exact bd_nI (by omega) | exact bd_le ‹bd (nI (vq % 32)) _› (by omega) | assumption) (by intros; first | (exfalso; omega) | exact bd_nI (by omega) | exact bd_le ‹bd (nI (vq % 32)) _› (by omega) | assumption)
        refine g_iast hC V 1 rfl (vp_in_nI (by omega) (by omega)) (f' := f_4) (by rw [nI_clamp (by omega)]; exact ef_4.symm) (ws' := [(o, .inr (8, [.int w0, .ref g1, .ref g2, .ref g3, .ref g4, .int (nI tp), .int w6, .int w7, .int w8, .int w9, .int w10, .int w11, .int w12, .int w13, .int w14, .ref g15, .int w16, .ref g17, .int w18, .int w19, .ref g20, .int w21, .ref g22, .ref g23, .ref g24, .int w25, .int w26, .int w27, .ref g28, .ref g29, .int w30, .ref g31, .ref g32, .ref g33])), (g1, .inl (T 0, 282, .inl f_4))]) rfl dX8_becomes_51 (fun H locs V => ?_)
        refine lv_lload_n hx hb dX8_becomes_52 rfl (lv_at hl 1 rfl) ?_
        refine lv_ldc2 (v := (8192)) hx hb hown (hts _ w_1285) dX8_becomes_53 ?_
        refine g_vl (y := (nI 8192).toInt64) (by decide +kernel) ?_
        refine lv_ldiv hx hb dX8_becomes_56 (by decide +kernel) ?_
        refine g_vl (y := Int64.ofNat (vq / 8192)) (by rw [oL_i (a := 8192) (by omega)]; exact oL_div (by omega) (by omega)) ?_
        refine lv_lstore_n (lv' := [(3, .long (Int64.ofNat (vq / 8192))), (5, .int (nI (kd - 1))), (0, .ref o), (1, .long (Int64.ofNat sv))]) hx hb dX8_becomes_57 rfl hl (by decide) rfl (fun ls hl => ?_)
        refine lv_iinc (v := ((nI (kd - 1)) + (-1))) (lv' := [(5, .int ((nI (kd - 1)) + (-1))), (3, .long (Int64.ofNat (vq / 8192))), (0, .ref o), (1, .long (Int64.ofNat sv))]) hx hb dX8_becomes_58 hl (k := 1) rfl rfl (by decide) rfl (fun ls hl => ?_)
        refine lv_goto (tgt := 12) hx hb dX8_becomes_61 (by decide) ?_
        exact ih_12 ((nI (kd - 1)) + (-1)) f_4 (kd - 1) (vq / 8192) (by assumption) (dn_step _) (by omega) (by omega) (by omega) _ _ _ V (lv_sub hl [0, 1, 2, 3] rfl)
  exact L_1 _ ((nI n) - (nI 1)) fa n sv (by assumption) rfl (Nat.le_refl _) h_sv (Nat.lt_succ_self _) _ _ _ V (lv_sub hl [0, 1, 2, 3] rfl)

def q_m_meets (T : Nat → ClassId) (sv : Nat) (o : Nat) (w0 : Int32) (g1 : Nat) (g2 : Nat) (g3 : Nat) (g4 : Nat) (tp : Nat) (w6 : Int32) (w7 : Int32) (w8 : Int32) (w9 : Int32) (w10 : Int32) (w11 : Int32) (w12 : Int32) (w13 : Int32) (w14 : Int32) (g15 : Nat) (w16 : Int32) (g17 : Nat) (w18 : Int32) (w19 : Int32) (g20 : Nat) (w21 : Int32) (g22 : Nat) (g23 : Nat) (g24 : Nat) (sm : Nat) (w26 : Int32) (w27 : Int32) (g28 : Nat) (g29 : Nat) (w30 : Int32) (g31 : Nat) (g32 : Nat) (g33 : Nat) (fs : Nat → Int64) (fc : Nat → Int32) : Option Value → va_W → Prop := fun rr ww => (∃ (sm2 : Nat) (gs : Nat → Int64) (gt : Nat → Int32), rr = none ∧ ww = [(o, .inr (8, [.int w0, .ref g1, .ref g2, .ref g3, .ref g4, .int (nI tp), .int w6, .int w7, .int w8, .int w9, .int w10, .int w11, .int w12, .int w13, .int w14, .ref g15, .int w16, .ref g17, .int w18, .int w19, .ref g20, .int w21, .ref g22, .ref g23, .ref g24, .int (nI sm2), .int w26, .int w27, .ref g28, .ref g29, .int w30, .ref g31, .ref g32, .ref g33])), (g23, .inl (T 1, 3001, .inr (.inl gs))), (g24, .inl (T 0, 8192, .inl gt))] ∧ TI sm2 gt ∧ SL sm2 gs ∧ sm ≤ sm2)
set_option maxHeartbeats 4000000 in
set_option maxRecDepth 100000 in
theorem m_meets (l : Launch) (D : va_G) (T : Nat → ClassId) (sv : Nat) (o : Nat) (w0 : Int32) (g1 : Nat) (g2 : Nat) (g3 : Nat) (g4 : Nat) (tp : Nat) (w6 : Int32) (w7 : Int32) (w8 : Int32) (w9 : Int32) (w10 : Int32) (w11 : Int32) (w12 : Int32) (w13 : Int32) (w14 : Int32) (g15 : Nat) (w16 : Int32) (g17 : Nat) (w18 : Int32) (w19 : Int32) (g20 : Nat) (w21 : Int32) (g22 : Nat) (g23 : Nat) (g24 : Nat) (sm : Nat) (w26 : Int32) (w27 : Int32) (g28 : Nat) (g29 : Nat) (w30 : Int32) (g31 : Nat) (g32 : Nat) (g33 : Nat) (fs : Nat → Int64) (fc : Nat → Int32) (h_ti : TI sm fc) (h_sl : SL sm fs) (h_sv : sv < 549755813889) : Ct l yX8_meets cX8_meets 4 none 0 0 0 D T [.ref o, .long (Int64.ofNat sv)] [(o, .inr (8, [.int w0, .ref g1, .ref g2, .ref g3, .ref g4, .int (nI tp), .int w6, .int w7, .int w8, .int w9, .int w10, .int w11, .int w12, .int w13, .int w14, .ref g15, .int w16, .ref g17, .int w18, .int w19, .ref g20, .int w21, .ref g22, .ref g23, .ref g24, .int (nI sm), .int w26, .int w27, .ref g28, .ref g29, .int w30, .ref g31, .ref g32, .ref g33])), (g23, .inl (T 1, 3001, .inr (.inl fs))), (g24, .inl (T 0, 8192, .inl fc))] (q_m_meets T sv o w0 g1 g2 g3 g4 tp w6 w7 w8 w9 w10 w11 w12 w13 w14 g15 w16 g17 w18 w19 g20 w21 g22 g23 g24 sm w26 w27 g28 g29 w30 g31 g32 g33 fs fc) := by
  refine Ct.of (cc := cX8_meets) (maxL := 4) (ret := none) (by decide) (Nat.le_of_ble_eq_true rfl) ?_
  intro p e s m args below meth c A ls hC hnm V hl
  obtain ⟨hx, hb, hr, hml, hown, hts, hlocks⟩ := id hC
  generalize hH : s.heap = H at V ⊢
  clear hH
  have hl : lv_has ls 4 [(0, .ref o), (1, .long (Int64.ofNat sv))] := hl
  generalize hlo : ([] : List Loc) = locs at V ⊢
  clear hlo
  obtain ⟨z_, hz1, hz2⟩ := ti_free h_ti
  have hsm := h_ti.1
  refine lv_lload_n hx hb dX8_meets_0 rfl (lv_at hl 1 rfl) ?_
  refine lv_ldc2 (v := (8191)) hx hb hown (hts _ w_1290) dX8_meets_1 ?_
  refine g_vl (y := (nI 8191).toInt64) (by decide +kernel) ?_
  refine lv_lrem hx hb dX8_meets_4 (by decide +kernel) ?_
  refine g_vl (y := Int64.ofNat (sv % 8191)) (by rw [oL_i (a := 8191) (by omega)]; exact oL_rem (by omega) (by omega)) ?_
  refine lv_l2i hx hb dX8_meets_5 rfl ?_
  refine g_vi (y := (nI (sv % 8191))) (oL_32 (by omega)) ?_
  refine lv_istore_n (lv' := [(3, .int (nI (sv % 8191))), (0, .ref o), (1, .long (Int64.ofNat sv))]) hx hb dX8_meets_6 rfl hl (by decide) rfl (fun ls hl => ?_)
  have L_1 : ∀ (fu : Nat) (kq : Nat), kq < 8192 → (z_ + 8192 - kq) % 8192 < fu → ∀ (H : Heap) (locs : List Loc) (ls : Array Slot), gW D T A s [(o, .inr (8, [.int w0, .ref g1, .ref g2, .ref g3, .ref g4, .int (nI tp), .int w6, .int w7, .int w8, .int w9, .int w10, .int w11, .int w12, .int w13, .int w14, .ref g15, .int w16, .ref g17, .int w18, .int w19, .ref g20, .int w21, .ref g22, .ref g23, .ref g24, .int (nI sm), .int w26, .int w27, .ref g28, .ref g29, .int w30, .ref g31, .ref g32, .ref g33])), (g23, .inl (T 1, 3001, .inr (.inl fs))), (g24, .inl (T 0, 8192, .inl fc))] H locs → lv_has ls 4 [(3, .int (nI kq)), (0, .ref o), (1, .long (Int64.ofNat sv))] → W p l e (rmD 0 0 0) s m args below meth c H locs 0 0 (MQ below (gQ D A (q_m_meets T sv o w0 g1 g2 g3 g4 tp w6 w7 w8 w9 w10 w11 w12 w13 w14 g15 w16 g17 w18 w19 g20 w21 g22 g23 g24 sm w26 w27 g28 g29 w30 g31 g32 g33 fs fc)) args s 0 0 A) (F0 m 7 ls []) := by
    intro fu_7
    induction fu_7 with
    | zero => intro kq hkq hmu; exact absurd hmu (Nat.not_lt_zero _)
    | succ fu_7 ih_7 =>
      intro kq hkq hmu_7 H locs ls V hl
      refine lv_aload_n hx hb dX8_meets_7 rfl (lv_at hl 1 rfl) ?_
      refine g_get hC V (ci := 8) uwX8 0 rfl rfl 24 (by decide) w_936 rfl rfl dX8_meets_8 ?_
      refine lv_iload_n hx hb dX8_meets_11 rfl (lv_at hl 0 rfl) ?_
      obtain ⟨j_2, hj_2, ej_2⟩ := bd_ex (ti_bd h_ti (i := kq) (by omega))
      refine g_iald hC V 2 rfl (vp_in_nI (by omega) (by omega)) (v := (nI j_2)) (by rw [nI_clamp (by omega)]; exact ej_2) dX8_meets_12 ?_
      refine lv_if_le (tgt := 46) hx hb dX8_meets_13 (by decide) (fun c_3 => ?_) (fun c_3 => ?_)
      · skip
        rw [show (0 : Int32) = nI 0 from rfl] at c_3
        have c_3 := b_le (by omega) (by omega) c_3
        refine lv_aload_n hx hb dX8_meets_46 rfl (lv_at hl 1 rfl) ?_
        refine g_get hC V (ci := 8) uwX8 0 rfl rfl 25 (by decide) w_937 rfl rfl dX8_meets_47 ?_
        refine lv_sipush (v := (nI 3001)) hx hb dX8_meets_50 (by decide +kernel) ?_
        refine lv_icmp_ne (tgt := 57) hx hb dX8_meets_53 (by decide) (fun c_4 => ?_) (fun c_4 => ?_)
        · skip
          have c_4 := b_ne (by omega) (by omega) c_4
          refine lv_aload_n hx hb dX8_meets_57 rfl (lv_at hl 1 rfl) ?_
          refine g_get hC V (ci := 8) uwX8 0 rfl rfl 23 (by decide) w_935 rfl rfl dX8_meets_58 ?_
          refine lv_aload_n hx hb dX8_meets_61 rfl (lv_at hl 1 rfl) ?_
          refine g_get hC V (ci := 8) uwX8 0 rfl rfl 25 (by decide) w_937 rfl rfl dX8_meets_62 ?_
          refine lv_lload_n hx hb dX8_meets_65 rfl (lv_at hl 2 rfl) ?_
          refine g_last hC V 1 rfl (vp_in_nI (by omega) (by omega)) (f' := (vp_updL fs sm (Int64.ofNat sv))) (by rw [nI_clamp (by omega)]) (ws' := [(o, .inr (8, [.int w0, .ref g1, .ref g2, .ref g3, .ref g4, .int (nI tp), .int w6, .int w7, .int w8, .int w9, .int w10, .int w11, .int w12, .int w13, .int w14, .ref g15, .int w16, .ref g17, .int w18, .int w19, .ref g20, .int w21, .ref g22, .ref g23, .ref g24, .int (nI sm), .int w26, .int w27, .ref g28, .ref g29, .int w30, .ref g31, .ref g32, .ref g33])), (g23, .inl (T 1, 3001, .inr (.inl (vp_updL fs sm (Int64.ofNat sv))))), (g24, .inl (T 0, 8192, .inl fc))]) rfl dX8_meets_66 (fun H locs V => ?_)
          refine lv_aload_n hx hb dX8_meets_67 rfl (lv_at hl 1 rfl) ?_
          refine lv_dup hx hb dX8_meets_68 rfl ?_
          refine g_get hC V (ci := 8) uwX8 0 rfl rfl 25 (by decide) w_937 rfl rfl dX8_meets_69 ?_
          refine lv_iconst (v := (nI 1)) hx hb dX8_meets_72 (by decide +kernel) ?_
          refine lv_iadd hx hb dX8_meets_73 ?_
          refine g_vi (y := (nI (sm + 1))) (nI_add _ _) ?_
          refine g_put hC V (ci := 8) uwX8 tyX8 tyX8_ok nmX8 0 rfl rfl 25 (by decide) w_937 rfl rfl rfl rfl (Nat.le_of_ble_eq_true rfl) (ws' := [(o, .inr (8, [.int w0, .ref g1, .ref g2, .ref g3, .ref g4, .int (nI tp), .int w6, .int w7, .int w8, .int w9, .int w10, .int w11, .int w12, .int w13, .int w14, .ref g15, .int w16, .ref g17, .int w18, .int w19, .ref g20, .int w21, .ref g22, .ref g23, .ref g24, .int (nI (sm + 1)), .int w26, .int w27, .ref g28, .ref g29, .int w30, .ref g31, .ref g32, .ref g33])), (g23, .inl (T 1, 3001, .inr (.inl (vp_updL fs sm (Int64.ofNat sv))))), (g24, .inl (T 0, 8192, .inl fc))]) rfl dX8_meets_74 (fun H locs V => ?_)
          refine lv_aload_n hx hb dX8_meets_77 rfl (lv_at hl 1 rfl) ?_
          refine g_get hC V (ci := 8) uwX8 0 rfl rfl 24 (by decide) w_936 rfl rfl dX8_meets_78 ?_
          refine lv_iload_n hx hb dX8_meets_81 rfl (lv_at hl 0 rfl) ?_
          refine lv_aload_n hx hb dX8_meets_82 rfl (lv_at hl 1 rfl) ?_
          refine g_get hC V (ci := 8) uwX8 0 rfl rfl 25 (by decide) w_937 rfl rfl dX8_meets_83 ?_
          refine g_iast hC V 2 rfl (vp_in_nI (by omega) (by omega)) (f' := (upd fc kq (nI (sm + 1)))) (by rw [nI_clamp (by omega)]) (ws' := [(o, .inr (8, [.int w0, .ref g1, .ref g2, .ref g3, .ref g4, .int (nI tp), .int w6, .int w7, .int w8, .int w9, .int w10, .int w11, .int w12, .int w13, .int w14, .ref g15, .int w16, .ref g17, .int w18, .int w19, .ref g20, .int w21, .ref g22, .ref g23, .ref g24, .int (nI (sm + 1)), .int w26, .int w27, .ref g28, .ref g29, .int w30, .ref g31, .ref g32, .ref g33])), (g23, .inl (T 1, 3001, .inr (.inl (vp_updL fs sm (Int64.ofNat sv))))), (g24, .inl (T 0, 8192, .inl (upd fc kq (nI (sm + 1)))))]) rfl dX8_meets_86 (fun H locs V => ?_)
          exact g_vret (Qr := (q_m_meets T sv o w0 g1 g2 g3 g4 tp w6 w7 w8 w9 w10 w11 w12 w13 w14 g15 w16 g17 w18 w19 g20 w21 g22 g23 g24 sm w26 w27 g28 g29 w30 g31 g32 g33 fs fc)) hC V ⟨(Nat.le_of_ble_eq_true rfl), (Nat.le_of_ble_eq_true rfl)⟩ ⟨(sm + 1), (vp_updL fs sm (Int64.ofNat sv)), (upd fc kq (nI (sm + 1))), rfl, rfl, (ti_put h_ti (by omega)), (sl_put h_sl h_sv), (by omega)⟩ dX8_meets_87
        · skip
          have c_4 := b_eq (by omega) (by omega) c_4
          exact g_vret (Qr := (q_m_meets T sv o w0 g1 g2 g3 g4 tp w6 w7 w8 w9 w10 w11 w12 w13 w14 g15 w16 g17 w18 w19 g20 w21 g22 g23 g24 sm w26 w27 g28 g29 w30 g31 g32 g33 fs fc)) hC V ⟨(Nat.le_of_ble_eq_true rfl), (Nat.le_of_ble_eq_true rfl)⟩ ⟨sm, fs, fc, rfl, rfl, h_ti, h_sl, (Nat.le_refl _)⟩ dX8_meets_56
      · skip
        rw [show (0 : Int32) = nI 0 from rfl] at c_3
        have c_3 := b_nle (by omega) (by omega) c_3
        have hnz := nz_of hz2 ej_2 (by omega) (by omega)
        refine lv_aload_n hx hb dX8_meets_16 rfl (lv_at hl 1 rfl) ?_
        refine g_get hC V (ci := 8) uwX8 0 rfl rfl 23 (by decide) w_935 rfl rfl dX8_meets_17 ?_
        refine lv_aload_n hx hb dX8_meets_20 rfl (lv_at hl 1 rfl) ?_
        refine g_get hC V (ci := 8) uwX8 0 rfl rfl 24 (by decide) w_936 rfl rfl dX8_meets_21 ?_
        refine lv_iload_n hx hb dX8_meets_24 rfl (lv_at hl 0 rfl) ?_
        refine g_iald hC V 2 rfl (vp_in_nI (by omega) (by omega)) (v := (nI j_2)) (by rw [nI_clamp (by omega)]; exact ej_2) dX8_meets_25 ?_
        refine lv_iconst (v := (nI 1)) hx hb dX8_meets_26 (by decide +kernel) ?_
        refine lv_isub hx hb dX8_meets_27 ?_
        refine g_vi (y := (nI (j_2 - 1))) (nI_sub (by omega)) ?_
        refine g_lald hC V 1 rfl (vp_in_nI (by omega) (by omega)) (v := (fs (j_2 - 1))) (congrArg _ (nI_clamp (by omega))) dX8_meets_28 ?_
        refine lv_lload_n hx hb dX8_meets_29 rfl (lv_at hl 2 rfl) ?_
        refine W.lcmp hx hb dX8_meets_30 ?_
        refine lv_if_ne (tgt := 35) hx hb dX8_meets_31 (by decide) (fun c_5 => ?_) (fun c_5 => ?_)
        · skip
          refine lv_iload_n hx hb dX8_meets_35 rfl (lv_at hl 0 rfl) ?_
          refine lv_iconst (v := (nI 1)) hx hb dX8_meets_36 (by decide +kernel) ?_
          refine lv_iadd hx hb dX8_meets_37 ?_
          refine g_vi (y := (nI (kq + 1))) (nI_add _ _) ?_
          refine lv_sipush (v := (nI 8192)) hx hb dX8_meets_38 (by decide +kernel) ?_
          refine lv_irem hx hb dX8_meets_41 (by decide +kernel) ?_
          refine g_vi (y := (nI ((kq + 1) % 8192))) (nI_rem (by omega) (by omega)) ?_
          refine lv_istore_n (lv' := [(3, .int (nI ((kq + 1) % 8192))), (0, .ref o), (1, .long (Int64.ofNat sv))]) hx hb dX8_meets_42 rfl hl (by decide) rfl (fun ls hl => ?_)
          refine lv_goto (tgt := 7) hx hb dX8_meets_43 (by decide) ?_
          exact ih_7 ((kq + 1) % 8192) (by omega) (by omega) _ _ _ V (lv_sub hl [0, 1, 2] rfl)
        · skip
          exact g_vret (Qr := (q_m_meets T sv o w0 g1 g2 g3 g4 tp w6 w7 w8 w9 w10 w11 w12 w13 w14 g15 w16 g17 w18 w19 g20 w21 g22 g23 g24 sm w26 w27 g28 g29 w30 g31 g32 g33 fs fc)) hC V ⟨(Nat.le_of_ble_eq_true rfl), (Nat.le_of_ble_eq_true rfl)⟩ ⟨sm, fs, fc, rfl, rfl, h_ti, h_sl, (Nat.le_refl _)⟩ dX8_meets_34
  exact L_1 _ (sv % 8191) (by omega) (Nat.lt_succ_self _) _ _ _ V (lv_sub hl [0, 1, 2] rfl)

def q_m_doesAll (T : Nat → ClassId) (sv : Nat) (n : Nat) (o : Nat) (w0 : Int32) (g1 : Nat) (g2 : Nat) (g3 : Nat) (g4 : Nat) (tp : Nat) (w6 : Int32) (w7 : Int32) (w8 : Int32) (w9 : Int32) (w10 : Int32) (w11 : Int32) (w12 : Int32) (w13 : Int32) (w14 : Int32) (g15 : Nat) (w16 : Int32) (g17 : Nat) (w18 : Int32) (w19 : Int32) (g20 : Nat) (w21 : Int32) (g22 : Nat) (g23 : Nat) (g24 : Nat) (sm : Nat) (w26 : Int32) (w27 : Int32) (g28 : Nat) (g29 : Nat) (w30 : Int32) (g31 : Nat) (g32 : Nat) (g33 : Nat) (fa : Nat → Int32) (fh : Nat → Int32) (fs : Nat → Int64) (fc : Nat → Int32) : Option Value → va_W → Prop := fun rr ww => (∃ (bm : Int32) (ga : Nat → Int32) (gh : Nat → Int32) (sm2 : Nat) (gs : Nat → Int64) (gt : Nat → Int32), rr = some (.int (nI 1)) ∧ ww = [(o, .inr (8, [.int w0, .ref g1, .ref g2, .ref g3, .ref g4, .int (nI tp), .int w6, .int w7, .int w8, .int w9, .int w10, .int w11, .int w12, .int w13, .int w14, .ref g15, .int bm, .ref g17, .int w18, .int w19, .ref g20, .int w21, .ref g22, .ref g23, .ref g24, .int (nI sm2), .int w26, .int w27, .ref g28, .ref g29, .int w30, .ref g31, .ref g32, .ref g33])), (g1, .inl (T 0, 282, .inl ga)), (g15, .inl (T 0, 10, .inl gh)), (g23, .inl (T 1, 3001, .inr (.inl gs))), (g24, .inl (T 0, 8192, .inl gt))] ∧ MS n fa ga ∧ TI sm2 gt ∧ SL sm2 gs ∧ sm ≤ sm2) ∨ (∃ (bm : Int32) (ga : Nat → Int32) (gh : Nat → Int32) (sm2 : Nat) (gs : Nat → Int64) (gt : Nat → Int32), rr = some (.int (nI 0)) ∧ ww = [(o, .inr (8, [.int w0, .ref g1, .ref g2, .ref g3, .ref g4, .int (nI tp), .int w6, .int w7, .int w8, .int w9, .int w10, .int w11, .int w12, .int w13, .int w14, .ref g15, .int bm, .ref g17, .int w18, .int w19, .ref g20, .int w21, .ref g22, .ref g23, .ref g24, .int (nI sm2), .int w26, .int w27, .ref g28, .ref g29, .int w30, .ref g31, .ref g32, .ref g33])), (g1, .inl (T 0, 282, .inl ga)), (g15, .inl (T 0, 10, .inl gh)), (g23, .inl (T 1, 3001, .inr (.inl gs))), (g24, .inl (T 0, 8192, .inl gt))] ∧ MS n fa ga ∧ TI sm2 gt ∧ SL sm2 gs ∧ sm ≤ sm2)
set_option maxHeartbeats 4000000 in
set_option maxRecDepth 100000 in
theorem m_doesAll (l : Launch) (D : va_G) (T : Nat → ClassId) (sv : Nat) (n : Nat) (o : Nat) (w0 : Int32) (g1 : Nat) (g2 : Nat) (g3 : Nat) (g4 : Nat) (tp : Nat) (w6 : Int32) (w7 : Int32) (w8 : Int32) (w9 : Int32) (w10 : Int32) (w11 : Int32) (w12 : Int32) (w13 : Int32) (w14 : Int32) (g15 : Nat) (w16 : Int32) (g17 : Nat) (w18 : Int32) (w19 : Int32) (g20 : Nat) (w21 : Int32) (g22 : Nat) (g23 : Nat) (g24 : Nat) (sm : Nat) (w26 : Int32) (w27 : Int32) (g28 : Nat) (g29 : Nat) (w30 : Int32) (g31 : Nat) (g32 : Nat) (g33 : Nat) (fa : Nat → Int32) (fh : Nat → Int32) (fs : Nat → Int64) (fc : Nat → Int32) (h_a : MI n fa) (h_3 : n ≤ 3) (h_ti : TI sm fc) (h_sl : SL sm fs) (h_sv : sv < 549755813889) : Ct l yX8_doesAll cX8_doesAll 9 (some .boolean) 3 0 0 D T [.ref o, .long (Int64.ofNat sv)] [(o, .inr (8, [.int w0, .ref g1, .ref g2, .ref g3, .ref g4, .int (nI tp), .int w6, .int w7, .int w8, .int w9, .int w10, .int w11, .int w12, .int w13, .int w14, .ref g15, .int w16, .ref g17, .int w18, .int w19, .ref g20, .int w21, .ref g22, .ref g23, .ref g24, .int (nI sm), .int w26, .int w27, .ref g28, .ref g29, .int w30, .ref g31, .ref g32, .ref g33])), (g1, .inl (T 0, 282, .inl fa)), (g15, .inl (T 0, 10, .inl fh)), (g23, .inl (T 1, 3001, .inr (.inl fs))), (g24, .inl (T 0, 8192, .inl fc))] (q_m_doesAll T sv n o w0 g1 g2 g3 g4 tp w6 w7 w8 w9 w10 w11 w12 w13 w14 g15 w16 g17 w18 w19 g20 w21 g22 g23 g24 sm w26 w27 g28 g29 w30 g31 g32 g33 fa fh fs fc) := by
  refine Ct.of (cc := cX8_doesAll) (maxL := 9) (ret := (some .boolean)) (by decide) (Nat.le_of_ble_eq_true rfl) ?_
  intro p e s m args below meth c A ls hC hnm V hl
  obtain ⟨hx, hb, hr, hml, hown, hts, hlocks⟩ := id hC
  generalize hH : s.heap = H at V ⊢
  clear hH
  have hl : lv_has ls 9 [(0, .ref o), (1, .long (Int64.ofNat sv))] := hl
  generalize hlo : ([] : List Loc) = locs at V ⊢
  clear hlo
  have ms0 := ms_rf h_a
  have hn10 := h_a.1
  refine lv_iconst (v := (nI 1)) hx hb dX8_doesAll_0 (by decide +kernel) ?_
  refine lv_istore_n (lv' := [(3, .int (nI 1)), (0, .ref o), (1, .long (Int64.ofNat sv))]) hx hb dX8_doesAll_1 rfl hl (by decide) rfl (fun ls hl => ?_)
  refine lv_iconst (v := (nI 0)) hx hb dX8_doesAll_2 (by decide +kernel) ?_
  refine lv_istore (lv' := [(4, .int (nI 0)), (3, .int (nI 1)), (0, .ref o), (1, .long (Int64.ofNat sv))]) hx hb dX8_doesAll_3 hl (by decide) rfl (fun ls hl => ?_)
  have L_1 : ∀ (fu : Nat) (k5 : Nat) (wy : Nat), k5 ≤ n → ((k5 = 0 ∧ wy = 1) ∨ (k5 = 1 ∧ wy = 3) ∨ (k5 = 2 ∧ wy = 9) ∨ (k5 = 3 ∧ wy = 27)) → n - k5 < fu → ∀ (H : Heap) (locs : List Loc) (ls : Array Slot), gW D T A s [(o, .inr (8, [.int w0, .ref g1, .ref g2, .ref g3, .ref g4, .int (nI tp), .int w6, .int w7, .int w8, .int w9, .int w10, .int w11, .int w12, .int w13, .int w14, .ref g15, .int w16, .ref g17, .int w18, .int w19, .ref g20, .int w21, .ref g22, .ref g23, .ref g24, .int (nI sm), .int w26, .int w27, .ref g28, .ref g29, .int w30, .ref g31, .ref g32, .ref g33])), (g1, .inl (T 0, 282, .inl fa)), (g15, .inl (T 0, 10, .inl fh)), (g23, .inl (T 1, 3001, .inr (.inl fs))), (g24, .inl (T 0, 8192, .inl fc))] H locs → lv_has ls 9 [(4, .int (nI k5)), (3, .int (nI wy)), (0, .ref o), (1, .long (Int64.ofNat sv))] → W p l e (rmD 3 0 0) s m args below meth c H locs 0 0 (MQ below (gQ D A (q_m_doesAll T sv n o w0 g1 g2 g3 g4 tp w6 w7 w8 w9 w10 w11 w12 w13 w14 g15 w16 g17 w18 w19 g20 w21 g22 g23 g24 sm w26 w27 g28 g29 w30 g31 g32 g33 fa fh fs fc)) args s 0 0 A) (F0 m 5 ls []) := by
    intro fu_5
    induction fu_5 with
    | zero => intro k5 wy hk5 hwy hmu; exact absurd hmu (Nat.not_lt_zero _)
    | succ fu_5 ih_5 =>
      intro k5 wy hk5 hwy hmu_5 H locs ls V hl
      refine lv_iload hx hb dX8_doesAll_5 (lv_at hl 0 rfl) ?_
      refine lv_aload_n hx hb dX8_doesAll_7 rfl (lv_at hl 2 rfl) ?_
      refine g_get hC V (ci := 8) uwX8 0 rfl rfl 1 (by decide) w_913 rfl rfl dX8_doesAll_8 ?_
      refine lv_iconst (v := (nI 0)) hx hb dX8_doesAll_11 (by decide +kernel) ?_
      refine g_iald hC V 1 rfl (vp_in_nI (by decide) (by decide)) (v := (nI n)) (by rw [nI_clamp (by decide)]; first | rfl | exact h_a.2.1 | exact hf29.1.2.1) dX8_doesAll_12 ?_
      refine lv_icmp_ge (tgt := 26) hx hb dX8_doesAll_13 (by decide) (fun c_2 => ?_) (fun c_2 => ?_)
      · skip
        have c_2 := b_le (by omega) (by omega) c_2
        refine lv_iconst (v := (nI 0)) hx hb dX8_doesAll_26 (by decide +kernel) ?_
        refine lv_istore (lv' := [(4, .int (nI 0)), (3, .int (nI wy)), (0, .ref o), (1, .long (Int64.ofNat sv))]) hx hb dX8_doesAll_27 hl (by decide) rfl (fun ls hl => ?_)
        have L_3 : ∀ (fu : Nat) (k29 : Nat) (sn_ : Nat) (bv : Int32) (gx : Nat → Int32) (gy : Nat → Int64) (gz : Nat → Int32) (f29 : Nat → Int32), k29 ≤ wy → MS n fa f29 → TI sn_ gz → SL sn_ gy → sm ≤ sn_ → wy - k29 < fu → ∀ (H : Heap) (locs : List Loc) (ls : Array Slot), gW D T A s [(o, .inr (8, [.int w0, .ref g1, .ref g2, .ref g3, .ref g4, .int (nI tp), .int w6, .int w7, .int w8, .int w9, .int w10, .int w11, .int w12, .int w13, .int w14, .ref g15, .int bv, .ref g17, .int w18, .int w19, .ref g20, .int w21, .ref g22, .ref g23, .ref g24, .int (nI sn_), .int w26, .int w27, .ref g28, .ref g29, .int w30, .ref g31, .ref g32, .ref g33])), (g1, .inl (T 0, 282, .inl f29)), (g15, .inl (T 0, 10, .inl gx)), (g23, .inl (T 1, 3001, .inr (.inl gy))), (g24, .inl (T 0, 8192, .inl gz))] H locs → lv_has ls 9 [(4, .int (nI k29)), (3, .int (nI wy)), (0, .ref o), (1, .long (Int64.ofNat sv))] → W p l e (rmD 3 0 0) s m args below meth c H locs 0 0 (MQ below (gQ D A (q_m_doesAll T sv n o w0 g1 g2 g3 g4 tp w6 w7 w8 w9 w10 w11 w12 w13 w14 g15 w16 g17 w18 w19 g20 w21 g22 g23 g24 sm w26 w27 g28 g29 w30 g31 g32 g33 fa fh fs fc)) args s 0 0 A) (F0 m 29 ls []) := by
          intro fu_29
          induction fu_29 with
          | zero => intro k29 sn_ bv gx gy gz f29 hk29 hf29 hti hsl hsn hmu; exact absurd hmu (Nat.not_lt_zero _)
          | succ fu_29 ih_29 =>
            intro k29 sn_ bv gx gy gz f29 hk29 hf29 hti hsl hsn hmu_29 H locs ls V hl
            refine lv_iload hx hb dX8_doesAll_29 (lv_at hl 0 rfl) ?_
            refine lv_iload_n hx hb dX8_doesAll_31 rfl (lv_at hl 1 rfl) ?_
            refine lv_icmp_ge (tgt := 158) hx hb dX8_doesAll_32 (by decide) (fun c_4 => ?_) (fun c_4 => ?_)
            · skip
              have c_4 := b_le (by omega) (by omega) c_4
              refine lv_iconst (v := (nI 0)) hx hb dX8_doesAll_158 (by decide +kernel) ?_
              exact g_zret (Qr := (q_m_doesAll T sv n o w0 g1 g2 g3 g4 tp w6 w7 w8 w9 w10 w11 w12 w13 w14 g15 w16 g17 w18 w19 g20 w21 g22 g23 g24 sm w26 w27 g28 g29 w30 g31 g32 g33 fa fh fs fc)) hC V ⟨(Nat.le_of_ble_eq_true rfl), (Nat.le_of_ble_eq_true rfl)⟩ (by first | decide +kernel | exact rfl) (.inr ⟨bv, f29, gx, sn_, gy, gz, rfl, rfl, (by first | assumption | omega), (by first | assumption | omega), (by first | assumption | omega), (by first | assumption | omega)⟩) dX8_doesAll_159
            · skip
              have c_4 := b_nle (by omega) (by omega) c_4
              refine lv_iconst (v := (nI 0)) hx hb dX8_doesAll_35 (by decide +kernel) ?_
              refine lv_istore (lv' := [(5, .int (nI 0)), (4, .int (nI k29)), (3, .int (nI wy)), (0, .ref o), (1, .long (Int64.ofNat sv))]) hx hb dX8_doesAll_36 hl (by decide) rfl (fun ls hl => ?_)
              refine lv_iconst (v := (nI 0)) hx hb dX8_doesAll_38 (by decide +kernel) ?_
              refine lv_istore (lv' := [(6, .int (nI 0)), (5, .int (nI 0)), (4, .int (nI k29)), (3, .int (nI wy)), (0, .ref o), (1, .long (Int64.ofNat sv))]) hx hb dX8_doesAll_39 hl (by decide) rfl (fun ls hl => ?_)
              refine lv_iload hx hb dX8_doesAll_41 (lv_at hl 2 rfl) ?_
              refine lv_istore (lv' := [(7, .int (nI k29)), (6, .int (nI 0)), (5, .int (nI 0)), (4, .int (nI k29)), (3, .int (nI wy)), (0, .ref o), (1, .long (Int64.ofNat sv))]) hx hb dX8_doesAll_43 hl (by decide) rfl (fun ls hl => ?_)
              refine lv_iconst (v := (nI 0)) hx hb dX8_doesAll_45 (by decide +kernel) ?_
              refine lv_istore (lv' := [(8, .int (nI 0)), (7, .int (nI k29)), (6, .int (nI 0)), (5, .int (nI 0)), (4, .int (nI k29)), (3, .int (nI wy)), (0, .ref o), (1, .long (Int64.ofNat sv))]) hx hb dX8_doesAll_46 hl (by decide) rfl (fun ls hl => ?_)
              have L_5 : ∀ (fu : Nat) (k48 : Nat) (x48_7 : Int32) (x48_6 : Int32) (x48_5 : Int32), k48 ≤ n → n - k48 < fu → ∀ (H : Heap) (locs : List Loc) (ls : Array Slot), gW D T A s [(o, .inr (8, [.int w0, .ref g1, .ref g2, .ref g3, .ref g4, .int (nI tp), .int w6, .int w7, .int w8, .int w9, .int w10, .int w11, .int w12, .int w13, .int w14, .ref g15, .int bv, .ref g17, .int w18, .int w19, .ref g20, .int w21, .ref g22, .ref g23, .ref g24, .int (nI sn_), .int w26, .int w27, .ref g28, .ref g29, .int w30, .ref g31, .ref g32, .ref g33])), (g1, .inl (T 0, 282, .inl f29)), (g15, .inl (T 0, 10, .inl gx)), (g23, .inl (T 1, 3001, .inr (.inl gy))), (g24, .inl (T 0, 8192, .inl gz))] H locs → lv_has ls 9 [(8, .int (nI k48)), (7, .int x48_7), (6, .int x48_6), (5, .int x48_5), (4, .int (nI k29)), (3, .int (nI wy)), (0, .ref o), (1, .long (Int64.ofNat sv))] → W p l e (rmD 3 0 0) s m args below meth c H locs 0 0 (MQ below (gQ D A (q_m_doesAll T sv n o w0 g1 g2 g3 g4 tp w6 w7 w8 w9 w10 w11 w12 w13 w14 g15 w16 g17 w18 w19 g20 w21 g22 g23 g24 sm w26 w27 g28 g29 w30 g31 g32 g33 fa fh fs fc)) args s 0 0 A) (F0 m 48 ls []) := by
                intro fu_48
                induction fu_48 with
                | zero => intro k48 x48_7 x48_6 x48_5 hk48 hmu; exact absurd hmu (Nat.not_lt_zero _)
                | succ fu_48 ih_48 =>
                  intro k48 x48_7 x48_6 x48_5 hk48 hmu_48 H locs ls V hl
                  refine lv_iload hx hb dX8_doesAll_48 (lv_at hl 0 rfl) ?_
                  refine lv_aload_n hx hb dX8_doesAll_50 rfl (lv_at hl 6 rfl) ?_
                  refine g_get hC V (ci := 8) uwX8 0 rfl rfl 1 (by decide) w_913 rfl rfl dX8_doesAll_51 ?_
                  refine lv_iconst (v := (nI 0)) hx hb dX8_doesAll_54 (by decide +kernel) ?_
                  refine g_iald hC V 1 rfl (vp_in_nI (by decide) (by decide)) (v := (nI n)) (by rw [nI_clamp (by decide)]; first | rfl | exact h_a.2.1 | exact hf29.1.2.1) dX8_doesAll_55 ?_
                  refine lv_icmp_ge (tgt := 113) hx hb dX8_doesAll_56 (by decide) (fun c_6 => ?_) (fun c_6 => ?_)
                  · skip
                    have c_6 := b_le (by omega) (by omega) c_6
                    refine lv_aload_n hx hb dX8_doesAll_113 rfl (lv_at hl 6 rfl) ?_
                    refine lv_lload_n hx hb dX8_doesAll_114 rfl (lv_at hl 7 rfl) ?_
                    refine g_callVU (nA := 1) hC V hl.1 (m_becomes l D T sv n o w0 g1 g2 g3 g4 tp w6 w7 w8 w9 w10 w11 w12 w13 w14 g15 bv g17 w18 w19 g20 w21 g22 g23 g24 (nI sn_) w26 w27 g28 g29 w30 g31 g32 g33 f29 hf29.1 (by first | assumption | omega)) w_1295 w_1297 w_s72 w_9 w_1298 (by decide +kernel) rfl ⟨(Nat.le_of_ble_eq_true rfl), (Nat.le_of_ble_eq_true rfl)⟩ 0 (ci := 8) rfl rfl [0, 1] rfl rfl (Nat.le_of_ble_eq_true rfl) dX8_doesAll_115 ⟨(Nat.le_of_ble_eq_true rfl), (Nat.le_of_ble_eq_true rfl)⟩ rfl (fun r w1 H locs hQ V => ?_)
                    obtain ⟨ga_7, rfl, rfl, f_8⟩ := hQ
                    have V : gW D T A s [(o, .inr (8, [.int w0, .ref g1, .ref g2, .ref g3, .ref g4, .int (nI tp), .int w6, .int w7, .int w8, .int w9, .int w10, .int w11, .int w12, .int w13, .int w14, .ref g15, .int bv, .ref g17, .int w18, .int w19, .ref g20, .int w21, .ref g22, .ref g23, .ref g24, .int (nI sn_), .int w26, .int w27, .ref g28, .ref g29, .int w30, .ref g31, .ref g32, .ref g33])), (g1, .inl (T 0, 282, .inl ga_7)), (g15, .inl (T 0, 10, .inl gx)), (g23, .inl (T 1, 3001, .inr (.inl gy))), (g24, .inl (T 0, 8192, .inl gz))] H locs := V _ [0, 0] rfl rfl rfl (by decide +kernel) rfl
                    show W p l e _ s m args below meth c H locs _ _ _ (F0 m 118 ls [])
                    have hga_7 : MS n fa ga_7 := ms_tr (by assumption) f_8
                    refine lv_aload_n hx hb dX8_doesAll_118 rfl (lv_at hl 6 rfl) ?_
                    refine lv_iload hx hb dX8_doesAll_119 (lv_at hl 3 rfl) ?_
                    refine lv_iload hx hb dX8_doesAll_121 (lv_at hl 2 rfl) ?_
                    refine lv_iconst (v := (-1)) hx hb dX8_doesAll_123 (by decide +kernel) ?_
                    refine lv_iconst (v := (nI 0)) hx hb dX8_doesAll_124 (by decide +kernel) ?_
                    refine g_callVU (nA := 4) hC V hl.1 (m_goes l D T n o x48_5 x48_6 (-1) (nI 0) w0 g1 g2 g3 g4 tp w6 w7 w8 w9 w10 w11 w12 w13 w14 g15 bv g17 w18 w19 g20 w21 g22 g23 g24 (nI sn_) w26 w27 g28 g29 w30 g31 g32 g33 ga_7 gx hga_7.1) w_1122 w_1124 w_s50 w_9 w_1125 (by decide +kernel) rfl ⟨(Nat.le_of_ble_eq_true rfl), (Nat.le_of_ble_eq_true rfl)⟩ 0 (ci := 8) rfl rfl [0, 1, 2] rfl rfl (Nat.le_of_ble_eq_true rfl) dX8_doesAll_125 ⟨(Nat.le_of_ble_eq_true rfl), (Nat.le_of_ble_eq_true rfl)⟩ rfl (fun r w1 H locs hQ V => ?_)
                    obtain ⟨z_9, bm_10, ga_11, gh_12, rfl, rfl, f_13⟩ := hQ
                    have V : gW D T A s [(o, .inr (8, [.int w0, .ref g1, .ref g2, .ref g3, .ref g4, .int (nI tp), .int w6, .int w7, .int w8, .int w9, .int w10, .int w11, .int w12, .int w13, .int w14, .ref g15, .int bm_10, .ref g17, .int w18, .int w19, .ref g20, .int w21, .ref g22, .ref g23, .ref g24, .int (nI sn_), .int w26, .int w27, .ref g28, .ref g29, .int w30, .ref g31, .ref g32, .ref g33])), (g1, .inl (T 0, 282, .inl ga_11)), (g15, .inl (T 0, 10, .inl gh_12)), (g23, .inl (T 1, 3001, .inr (.inl gy))), (g24, .inl (T 0, 8192, .inl gz))] H locs := V _ [0, 0, 0] rfl rfl rfl (by decide +kernel) rfl
                    show W p l e _ s m args below meth c H locs _ _ _ (F0 m 128 ls [.int z_9])
                    have hga_11 : MS n fa ga_11 := ms_tr (by assumption) f_13
                    refine lv_pop hx hb dX8_doesAll_128 rfl ?_
                    refine lv_aload_n hx hb dX8_doesAll_129 rfl (lv_at hl 6 rfl) ?_
                    refine g_callVU (nA := 0) hC V hl.1 (m_doneMany l D T n o w0 g1 g2 g3 g4 tp w6 w7 w8 w9 w10 w11 w12 w13 w14 g15 bm_10 g17 w18 w19 g20 w21 g22 g23 g24 (nI sn_) w26 w27 g28 g29 w30 g31 g32 g33 ga_11 hga_11.1) w_1158 w_1160 w_s56 w_9 w_1161 (by decide +kernel) rfl ⟨(Nat.le_of_ble_eq_true rfl), (Nat.le_of_ble_eq_true rfl)⟩ 0 (ci := 8) rfl rfl [0, 1] rfl rfl (Nat.le_of_ble_eq_true rfl) dX8_doesAll_130 ⟨(Nat.le_of_ble_eq_true rfl), (Nat.le_of_ble_eq_true rfl)⟩ rfl (fun r w1 H locs hQ V => ?_)
                    obtain ⟨z_14, rfl, rfl⟩ := hQ
                    have V : gW D T A s [(o, .inr (8, [.int w0, .ref g1, .ref g2, .ref g3, .ref g4, .int (nI tp), .int w6, .int w7, .int w8, .int w9, .int w10, .int w11, .int w12, .int w13, .int w14, .ref g15, .int bm_10, .ref g17, .int w18, .int w19, .ref g20, .int w21, .ref g22, .ref g23, .ref g24, .int (nI sn_), .int w26, .int w27, .ref g28, .ref g29, .int w30, .ref g31, .ref g32, .ref g33])), (g1, .inl (T 0, 282, .inl ga_11)), (g15, .inl (T 0, 10, .inl gh_12)), (g23, .inl (T 1, 3001, .inr (.inl gy))), (g24, .inl (T 0, 8192, .inl gz))] H locs := V _ [0, 0] rfl rfl rfl (by decide +kernel) rfl
                    show W p l e _ s m args below meth c H locs _ _ _ (F0 m 133 ls [.int z_14])
                    refine lv_aload_n hx hb dX8_doesAll_133 rfl (lv_at hl 6 rfl) ?_
                    refine g_get hC V (ci := 8) uwX8 0 rfl rfl 1 (by decide) w_913 rfl rfl dX8_doesAll_134 ?_
                    refine lv_iconst (v := (nI 0)) hx hb dX8_doesAll_137 (by decide +kernel) ?_
                    refine g_iald hC V 1 rfl (vp_in_nI (by decide) (by decide)) (v := (nI n)) (by rw [nI_clamp (by decide)]; first | rfl | exact h_a.2.1 | exact hf29.1.2.1 | exact hga_7.1.2.1 | exact hga_11.1.2.1) dX8_doesAll_138 ?_
                    refine lv_icmp_ne (tgt := 144) hx hb dX8_doesAll_139 (by decide) (fun c_15 => ?_) (fun c_15 => ?_)
                    · skip
                      refine lv_aload_n hx hb dX8_doesAll_144 rfl (lv_at hl 6 rfl) ?_
                      refine lv_aload_n hx hb dX8_doesAll_145 rfl (lv_at hl 6 rfl) ?_
                      refine g_callVU (nA := 0) hC V hl.1 (m_state l D T n o w0 g1 g2 g3 g4 tp w6 w7 w8 w9 w10 w11 w12 w13 w14 g15 bm_10 g17 w18 w19 g20 w21 g22 g23 g24 (nI sn_) w26 w27 g28 g29 w30 g31 g32 g33 ga_11 hga_11.1 (by first | assumption | omega)) w_1281 w_1283 w_s69 w_9 w_1284 (by decide +kernel) rfl ⟨(Nat.le_of_ble_eq_true rfl), (Nat.le_of_ble_eq_true rfl)⟩ 0 (ci := 8) rfl rfl [0, 1] rfl rfl (Nat.le_of_ble_eq_true rfl) dX8_doesAll_146 ⟨(Nat.le_of_ble_eq_true rfl), (Nat.le_of_ble_eq_true rfl)⟩ rfl (fun r w1 H locs hQ V => ?_)
                      obtain ⟨r_16, rfl, rfl, f_17⟩ := hQ
                      have V : gW D T A s [(o, .inr (8, [.int w0, .ref g1, .ref g2, .ref g3, .ref g4, .int (nI tp), .int w6, .int w7, .int w8, .int w9, .int w10, .int w11, .int w12, .int w13, .int w14, .ref g15, .int bm_10, .ref g17, .int w18, .int w19, .ref g20, .int w21, .ref g22, .ref g23, .ref g24, .int (nI sn_), .int w26, .int w27, .ref g28, .ref g29, .int w30, .ref g31, .ref g32, .ref g33])), (g1, .inl (T 0, 282, .inl ga_11)), (g15, .inl (T 0, 10, .inl gh_12)), (g23, .inl (T 1, 3001, .inr (.inl gy))), (g24, .inl (T 0, 8192, .inl gz))] H locs := V _ [0, 0] rfl rfl rfl (by decide +kernel) rfl
                      show W p l e _ s m args below meth c H locs _ _ _ (F0 m 149 ls [.long (Int64.ofNat r_16), .ref o])
                      have hr_ : r_16 < 549755813889 := Nat.lt_of_lt_of_le f_17 (Nat.le_trans (stB_le h_3) (by decide))
                      refine g_callVU (nA := 1) hC V hl.1 (m_meets l D T r_16 o w0 g1 g2 g3 g4 tp w6 w7 w8 w9 w10 w11 w12 w13 w14 g15 bm_10 g17 w18 w19 g20 w21 g22 g23 g24 sn_ w26 w27 g28 g29 w30 g31 g32 g33 gy gz (by first | assumption | omega) (by first | assumption | omega) (by first | assumption | omega)) w_1286 w_1288 w_s70 w_9 w_1289 (by decide +kernel) rfl ⟨(Nat.le_of_ble_eq_true rfl), (Nat.le_of_ble_eq_true rfl)⟩ 0 (ci := 8) rfl rfl [0, 3, 4] rfl rfl (Nat.le_of_ble_eq_true rfl) dX8_doesAll_149 ⟨(Nat.le_of_ble_eq_true rfl), (Nat.le_of_ble_eq_true rfl)⟩ rfl (fun r w1 H locs hQ V => ?_)
                      obtain ⟨sm2_18, gs_19, gt_20, rfl, rfl, f_21, f_22, f_23⟩ := hQ
                      have V : gW D T A s [(o, .inr (8, [.int w0, .ref g1, .ref g2, .ref g3, .ref g4, .int (nI tp), .int w6, .int w7, .int w8, .int w9, .int w10, .int w11, .int w12, .int w13, .int w14, .ref g15, .int bm_10, .ref g17, .int w18, .int w19, .ref g20, .int w21, .ref g22, .ref g23, .ref g24, .int (nI sm2_18), .int w26, .int w27, .ref g28, .ref g29, .int w30, .ref g31, .ref g32, .ref g33])), (g1, .inl (T 0, 282, .inl ga_11)), (g15, .inl (T 0, 10, .inl gh_12)), (g23, .inl (T 1, 3001, .inr (.inl gs_19))), (g24, .inl (T 0, 8192, .inl gt_20))] H locs := V _ [0, 2, 0] rfl rfl rfl (by decide +kernel) rfl
                      show W p l e _ s m args below meth c H locs _ _ _ (F0 m 152 ls [])
                      refine lv_iinc (v := (nI (k29 + 1))) (lv' := [(4, .int (nI (k29 + 1))), (8, .int (nI k48)), (7, .int x48_7), (6, .int x48_6), (5, .int x48_5), (3, .int (nI wy)), (0, .ref o), (1, .long (Int64.ofNat sv))]) hx hb dX8_doesAll_152 hl (k := 4) rfl (nI_1 _) (by decide) rfl (fun ls hl => ?_)
                      refine lv_goto (tgt := 29) hx hb dX8_doesAll_155 (by decide) ?_
                      exact ih_29 (k29 + 1) sm2_18 bm_10 gh_12 gs_19 gt_20 ga_11 (by omega) (by assumption) (by assumption) (by assumption) (by omega) (by omega) _ _ _ V (lv_sub hl [0, 5, 6, 7] rfl)
                    · skip
                      refine lv_iconst (v := (nI 1)) hx hb dX8_doesAll_142 (by decide +kernel) ?_
                      exact g_zret (Qr := (q_m_doesAll T sv n o w0 g1 g2 g3 g4 tp w6 w7 w8 w9 w10 w11 w12 w13 w14 g15 w16 g17 w18 w19 g20 w21 g22 g23 g24 sm w26 w27 g28 g29 w30 g31 g32 g33 fa fh fs fc)) hC V ⟨(Nat.le_of_ble_eq_true rfl), (Nat.le_of_ble_eq_true rfl)⟩ (by first | decide +kernel | exact rfl) (.inl ⟨bm_10, ga_11, gh_12, sn_, gy, gz, rfl, rfl, (by first | assumption | omega), (by first | assumption | omega), (by first | assumption | omega), (by first | assumption | omega)⟩) dX8_doesAll_143
                  · skip
                    have c_6 := b_nle (by omega) (by omega) c_6
                    refine lv_iload hx hb dX8_doesAll_59 (lv_at hl 3 rfl) ?_
                    refine lv_iload hx hb dX8_doesAll_61 (lv_at hl 1 rfl) ?_
                    refine lv_iconst (v := (nI 3)) hx hb dX8_doesAll_63 (by decide +kernel) ?_
                    refine lv_irem hx hb dX8_doesAll_64 (by decide +kernel) ?_
                    refine lv_iconst (v := (nI 1)) hx hb dX8_doesAll_65 (by decide +kernel) ?_
                    refine lv_icmp_ne (tgt := 76) hx hb dX8_doesAll_66 (by decide) (fun c_24 => ?_) (fun c_24 => ?_)
                    · skip
                      refine lv_iconst (v := (nI 0)) hx hb dX8_doesAll_76 (by decide +kernel) ?_
                      refine lv_ior hx hb dX8_doesAll_77 ?_
                      refine lv_istore (lv' := [(5, .int (x48_5 ||| (nI 0))), (8, .int (nI k48)), (7, .int x48_7), (6, .int x48_6), (4, .int (nI k29)), (3, .int (nI wy)), (0, .ref o), (1, .long (Int64.ofNat sv))]) hx hb dX8_doesAll_78 hl (by decide) rfl (fun ls hl => ?_)
                      refine lv_iload hx hb dX8_doesAll_80 (lv_at hl 3 rfl) ?_
                      refine lv_iload hx hb dX8_doesAll_82 (lv_at hl 2 rfl) ?_
                      refine lv_iconst (v := (nI 3)) hx hb dX8_doesAll_84 (by decide +kernel) ?_
                      refine lv_irem hx hb dX8_doesAll_85 (by decide +kernel) ?_
                      refine lv_iconst (v := (nI 2)) hx hb dX8_doesAll_86 (by decide +kernel) ?_
                      refine lv_icmp_ne (tgt := 97) hx hb dX8_doesAll_87 (by decide) (fun c_25 => ?_) (fun c_25 => ?_)
                      · skip
                        refine lv_iconst (v := (nI 0)) hx hb dX8_doesAll_97 (by decide +kernel) ?_
                        refine lv_ior hx hb dX8_doesAll_98 ?_
                        refine lv_istore (lv' := [(6, .int (x48_6 ||| (nI 0))), (5, .int (x48_5 ||| (nI 0))), (8, .int (nI k48)), (7, .int x48_7), (4, .int (nI k29)), (3, .int (nI wy)), (0, .ref o), (1, .long (Int64.ofNat sv))]) hx hb dX8_doesAll_99 hl (by decide) rfl (fun ls hl => ?_)
                        refine lv_iload hx hb dX8_doesAll_101 (lv_at hl 3 rfl) ?_
                        refine lv_iconst (v := (nI 3)) hx hb dX8_doesAll_103 (by decide +kernel) ?_
                        refine lv_idiv hx hb dX8_doesAll_104 (by decide +kernel) ?_
                        refine lv_istore (lv' := [(7, .int (x48_7 / (nI 3))), (6, .int (x48_6 ||| (nI 0))), (5, .int (x48_5 ||| (nI 0))), (8, .int (nI k48)), (4, .int (nI k29)), (3, .int (nI wy)), (0, .ref o), (1, .long (Int64.ofNat sv))]) hx hb dX8_doesAll_105 hl (by decide) rfl (fun ls hl => ?_)
                        refine lv_iinc (v := (nI (k48 + 1))) (lv' := [(8, .int (nI (k48 + 1))), (7, .int (x48_7 / (nI 3))), (6, .int (x48_6 ||| (nI 0))), (5, .int (x48_5 ||| (nI 0))), (4, .int (nI k29)), (3, .int (nI wy)), (0, .ref o), (1, .long (Int64.ofNat sv))]) hx hb dX8_doesAll_107 hl (k := 3) rfl (nI_1 _) (by decide) rfl (fun ls hl => ?_)
                        refine lv_goto (tgt := 48) hx hb dX8_doesAll_110 (by decide) ?_
                        exact ih_48 (k48 + 1) (x48_7 / (nI 3)) (x48_6 ||| (nI 0)) (x48_5 ||| (nI 0)) (by omega) (by omega) _ _ _ V (lv_sub hl [0, 1, 2, 3, 4, 5, 6, 7] rfl)
                      · skip
                        refine lv_iconst (v := (nI 1)) hx hb dX8_doesAll_90 (by decide +kernel) ?_
                        refine lv_iload hx hb dX8_doesAll_91 (lv_at hl 1 rfl) ?_
                        refine lv_ishl hx hb dX8_doesAll_93 ?_
                        refine lv_goto (tgt := 98) hx hb dX8_doesAll_94 (by decide) ?_
                        refine lv_ior hx hb dX8_doesAll_98 ?_
                        refine lv_istore (lv' := [(6, .int (x48_6 ||| ((nI 1) <<< ((nI k48) &&& 31)))), (5, .int (x48_5 ||| (nI 0))), (8, .int (nI k48)), (7, .int x48_7), (4, .int (nI k29)), (3, .int (nI wy)), (0, .ref o), (1, .long (Int64.ofNat sv))]) hx hb dX8_doesAll_99 hl (by decide) rfl (fun ls hl => ?_)
                        refine lv_iload hx hb dX8_doesAll_101 (lv_at hl 3 rfl) ?_
                        refine lv_iconst (v := (nI 3)) hx hb dX8_doesAll_103 (by decide +kernel) ?_
                        refine lv_idiv hx hb dX8_doesAll_104 (by decide +kernel) ?_
                        refine lv_istore (lv' := [(7, .int (x48_7 / (nI 3))), (6, .int (x48_6 ||| ((nI 1) <<< ((nI k48) &&& 31)))), (5, .int (x48_5 ||| (nI 0))), (8, .int (nI k48)), (4, .int (nI k29)), (3, .int (nI wy)), (0, .ref o), (1, .long (Int64.ofNat sv))]) hx hb dX8_doesAll_105 hl (by decide) rfl (fun ls hl => ?_)
                        refine lv_iinc (v := (nI (k48 + 1))) (lv' := [(8, .int (nI (k48 + 1))), (7, .int (x48_7 / (nI 3))), (6, .int (x48_6 ||| ((nI 1) <<< ((nI k48) &&& 31)))), (5, .int (x48_5 ||| (nI 0))), (4, .int (nI k29)), (3, .int (nI wy)), (0, .ref o), (1, .long (Int64.ofNat sv))]) hx hb dX8_doesAll_107 hl (k := 3) rfl (nI_1 _) (by decide) rfl (fun ls hl => ?_)
                        refine lv_goto (tgt := 48) hx hb dX8_doesAll_110 (by decide) ?_
                        exact ih_48 (k48 + 1) (x48_7 / (nI 3)) (x48_6 ||| ((nI 1) <<< ((nI k48) &&& 31))) (x48_5 ||| (nI 0)) (by omega) (by omega) _ _ _ V (lv_sub hl [0, 1, 2, 3, 4, 5, 6, 7] rfl)
                    · skip
                      refine lv_iconst (v := (nI 1)) hx hb dX8_doesAll_69 (by decide +kernel) ?_
                      refine lv_iload hx hb dX8_doesAll_70 (lv_at hl 0 rfl) ?_
                      refine lv_ishl hx hb dX8_doesAll_72 ?_
                      refine lv_goto (tgt := 77) hx hb dX8_doesAll_73 (by decide) ?_
                      refine lv_ior hx hb dX8_doesAll_77 ?_
                      refine lv_istore (lv' := [(5, .int (x48_5 ||| ((nI 1) <<< ((nI k48) &&& 31)))), (8, .int (nI k48)), (7, .int x48_7), (6, .int x48_6), (4, .int (nI k29)), (3, .int (nI wy)), (0, .ref o), (1, .long (Int64.ofNat sv))]) hx hb dX8_doesAll_78 hl (by decide) rfl (fun ls hl => ?_)
                      refine lv_iload hx hb dX8_doesAll_80 (lv_at hl 3 rfl) ?_
                      refine lv_iload hx hb dX8_doesAll_82 (lv_at hl 2 rfl) ?_
                      refine lv_iconst (v := (nI 3)) hx hb dX8_doesAll_84 (by decide +kernel) ?_
                      refine lv_irem hx hb dX8_doesAll_85 (by decide +kernel) ?_
                      refine lv_iconst (v := (nI 2)) hx hb dX8_doesAll_86 (by decide +kernel) ?_
                      refine lv_icmp_ne (tgt := 97) hx hb dX8_doesAll_87 (by decide) (fun c_26 => ?_) (fun c_26 => ?_)
                      · skip
                        refine lv_iconst (v := (nI 0)) hx hb dX8_doesAll_97 (by decide +kernel) ?_
                        refine lv_ior hx hb dX8_doesAll_98 ?_
                        refine lv_istore (lv' := [(6, .int (x48_6 ||| (nI 0))), (5, .int (x48_5 ||| ((nI 1) <<< ((nI k48) &&& 31)))), (8, .int (nI k48)), (7, .int x48_7), (4, .int (nI k29)), (3, .int (nI wy)), (0, .ref o), (1, .long (Int64.ofNat sv))]) hx hb dX8_doesAll_99 hl (by decide) rfl (fun ls hl => ?_)
                        refine lv_iload hx hb dX8_doesAll_101 (lv_at hl 3 rfl) ?_
                        refine lv_iconst (v := (nI 3)) hx hb dX8_doesAll_103 (by decide +kernel) ?_
                        refine lv_idiv hx hb dX8_doesAll_104 (by decide +kernel) ?_
                        refine lv_istore (lv' := [(7, .int (x48_7 / (nI 3))), (6, .int (x48_6 ||| (nI 0))), (5, .int (x48_5 ||| ((nI 1) <<< ((nI k48) &&& 31)))), (8, .int (nI k48)), (4, .int (nI k29)), (3, .int (nI wy)), (0, .ref o), (1, .long (Int64.ofNat sv))]) hx hb dX8_doesAll_105 hl (by decide) rfl (fun ls hl => ?_)
                        refine lv_iinc (v := (nI (k48 + 1))) (lv' := [(8, .int (nI (k48 + 1))), (7, .int (x48_7 / (nI 3))), (6, .int (x48_6 ||| (nI 0))), (5, .int (x48_5 ||| ((nI 1) <<< ((nI k48) &&& 31)))), (4, .int (nI k29)), (3, .int (nI wy)), (0, .ref o), (1, .long (Int64.ofNat sv))]) hx hb dX8_doesAll_107 hl (k := 3) rfl (nI_1 _) (by decide) rfl (fun ls hl => ?_)
                        refine lv_goto (tgt := 48) hx hb dX8_doesAll_110 (by decide) ?_
                        exact ih_48 (k48 + 1) (x48_7 / (nI 3)) (x48_6 ||| (nI 0)) (x48_5 ||| ((nI 1) <<< ((nI k48) &&& 31))) (by omega) (by omega) _ _ _ V (lv_sub hl [0, 1, 2, 3, 4, 5, 6, 7] rfl)
                      · skip
                        refine lv_iconst (v := (nI 1)) hx hb dX8_doesAll_90 (by decide +kernel) ?_
                        refine lv_iload hx hb dX8_doesAll_91 (lv_at hl 1 rfl) ?_
                        refine lv_ishl hx hb dX8_doesAll_93 ?_
                        refine lv_goto (tgt := 98) hx hb dX8_doesAll_94 (by decide) ?_
                        refine lv_ior hx hb dX8_doesAll_98 ?_
                        refine lv_istore (lv' := [(6, .int (x48_6 ||| ((nI 1) <<< ((nI k48) &&& 31)))), (5, .int (x48_5 ||| ((nI 1) <<< ((nI k48) &&& 31)))), (8, .int (nI k48)), (7, .int x48_7), (4, .int (nI k29)), (3, .int (nI wy)), (0, .ref o), (1, .long (Int64.ofNat sv))]) hx hb dX8_doesAll_99 hl (by decide) rfl (fun ls hl => ?_)
                        refine lv_iload hx hb dX8_doesAll_101 (lv_at hl 3 rfl) ?_
                        refine lv_iconst (v := (nI 3)) hx hb dX8_doesAll_103 (by decide +kernel) ?_
                        refine lv_idiv hx hb dX8_doesAll_104 (by decide +kernel) ?_
                        refine lv_istore (lv' := [(7, .int (x48_7 / (nI 3))), (6, .int (x48_6 ||| ((nI 1) <<< ((nI k48) &&& 31)))), (5, .int (x48_5 ||| ((nI 1) <<< ((nI k48) &&& 31)))), (8, .int (nI k48)), (4, .int (nI k29)), (3, .int (nI wy)), (0, .ref o), (1, .long (Int64.ofNat sv))]) hx hb dX8_doesAll_105 hl (by decide) rfl (fun ls hl => ?_)
                        refine lv_iinc (v := (nI (k48 + 1))) (lv' := [(8, .int (nI (k48 + 1))), (7, .int (x48_7 / (nI 3))), (6, .int (x48_6 ||| ((nI 1) <<< ((nI k48) &&& 31)))), (5, .int (x48_5 ||| ((nI 1) <<< ((nI k48) &&& 31)))), (4, .int (nI k29)), (3, .int (nI wy)), (0, .ref o), (1, .long (Int64.ofNat sv))]) hx hb dX8_doesAll_107 hl (k := 3) rfl (nI_1 _) (by decide) rfl (fun ls hl => ?_)
                        refine lv_goto (tgt := 48) hx hb dX8_doesAll_110 (by decide) ?_
                        exact ih_48 (k48 + 1) (x48_7 / (nI 3)) (x48_6 ||| ((nI 1) <<< ((nI k48) &&& 31))) (x48_5 ||| ((nI 1) <<< ((nI k48) &&& 31))) (by omega) (by omega) _ _ _ V (lv_sub hl [0, 1, 2, 3, 4, 5, 6, 7] rfl)
              exact L_5 _ 0 (nI k29) (nI 0) (nI 0) (by omega) (Nat.lt_succ_self _) _ _ _ V (lv_sub hl [0, 1, 2, 3, 4, 5, 6, 7] rfl)
        exact L_3 _ 0 sm w16 fh fs fc fa (by omega) (by assumption) (by assumption) (by assumption) (by omega) (Nat.lt_succ_self _) _ _ _ V (lv_sub hl [0, 1, 2, 3] rfl)
      · skip
        have c_2 := b_nle (by omega) (by omega) c_2
        refine lv_iload_n hx hb dX8_doesAll_16 rfl (lv_at hl 1 rfl) ?_
        refine lv_iconst (v := (nI 3)) hx hb dX8_doesAll_17 (by decide +kernel) ?_
        refine lv_imul hx hb dX8_doesAll_18 ?_
        refine g_vi (y := (nI (wy * 3))) (pk_mul _ _) ?_
        refine lv_istore_n (lv' := [(3, .int (nI (wy * 3))), (4, .int (nI k5)), (0, .ref o), (1, .long (Int64.ofNat sv))]) hx hb dX8_doesAll_19 rfl hl (by decide) rfl (fun ls hl => ?_)
        refine lv_iinc (v := (nI (k5 + 1))) (lv' := [(4, .int (nI (k5 + 1))), (3, .int (nI (wy * 3))), (0, .ref o), (1, .long (Int64.ofNat sv))]) hx hb dX8_doesAll_20 hl (k := 1) rfl (nI_1 _) (by decide) rfl (fun ls hl => ?_)
        refine lv_goto (tgt := 5) hx hb dX8_doesAll_23 (by decide) ?_
        exact ih_5 (k5 + 1) (wy * 3) (by omega) (by omega) (by omega) _ _ _ V (lv_sub hl [0, 1, 2, 3] rfl)
  exact L_1 _ 0 1 (by omega) (Or.inl ⟨rfl, rfl⟩) (Nat.lt_succ_self _) _ _ _ V (lv_sub hl [0, 1, 2, 3] rfl)

def q_m_soonest (T : Nat → ClassId) (n : Nat) (o : Nat) (w0 : Int32) (g1 : Nat) (g2 : Nat) (g3 : Nat) (g4 : Nat) (tp : Nat) (w6 : Int32) (w7 : Int32) (w8 : Int32) (w9 : Int32) (w10 : Int32) (w11 : Int32) (w12 : Int32) (w13 : Int32) (w14 : Int32) (g15 : Nat) (w16 : Int32) (g17 : Nat) (w18 : Int32) (w19 : Int32) (g20 : Nat) (w21 : Int32) (g22 : Nat) (g23 : Nat) (g24 : Nat) (w25 : Int32) (w26 : Int32) (w27 : Int32) (g28 : Nat) (g29 : Nat) (w30 : Int32) (g31 : Nat) (g32 : Nat) (g33 : Nat) (fa : Nat → Int32) (fh : Nat → Int32) (fk : Nat → Int32) (fs : Nat → Int64) (fc : Nat → Int32) : Option Value → va_W → Prop := fun rr ww => (∃ (z : Int32) (sq : Int32) (bm : Int32) (gh : Nat → Int32) (gk : Nat → Int32) (gs : Nat → Int64) (gt : Nat → Int32), rr = some (.int z) ∧ ww = [(o, .inr (8, [.int (nI 0), .ref g1, .ref g2, .ref g3, .ref g4, .int (nI tp), .int w6, .int w7, .int w8, .int w9, .int w10, .int w11, .int w12, .int w13, .int w14, .ref g15, .int bm, .ref g17, .int w18, .int w19, .ref g20, .int w21, .ref g22, .ref g23, .ref g24, .int sq, .int w26, .int w27, .ref g28, .ref g29, .int w30, .ref g31, .ref g32, .ref g33])), (g1, .inl (T 0, 282, .inl fa)), (g15, .inl (T 0, 10, .inl gh)), (g17, .inl (T 0, 94, .inl gk)), (g23, .inl (T 1, 3001, .inr (.inl gs))), (g24, .inl (T 0, 8192, .inl gt))])
set_option maxHeartbeats 4000000 in
set_option maxRecDepth 100000 in
theorem m_soonest (l : Launch) (D : va_G) (T : Nat → ClassId) (n : Nat) (o : Nat) (w0 : Int32) (g1 : Nat) (g2 : Nat) (g3 : Nat) (g4 : Nat) (tp : Nat) (w6 : Int32) (w7 : Int32) (w8 : Int32) (w9 : Int32) (w10 : Int32) (w11 : Int32) (w12 : Int32) (w13 : Int32) (w14 : Int32) (g15 : Nat) (w16 : Int32) (g17 : Nat) (w18 : Int32) (w19 : Int32) (g20 : Nat) (w21 : Int32) (g22 : Nat) (g23 : Nat) (g24 : Nat) (w25 : Int32) (w26 : Int32) (w27 : Int32) (g28 : Nat) (g29 : Nat) (w30 : Int32) (g31 : Nat) (g32 : Nat) (g33 : Nat) (fa : Nat → Int32) (fh : Nat → Int32) (fk : Nat → Int32) (fs : Nat → Int64) (fc : Nat → Int32) (h_a : MI n fa) : Ct l yX8_soonest cX8_soonest 6 (some .int) 4 0 0 D T [.ref o] [(o, .inr (8, [.int w0, .ref g1, .ref g2, .ref g3, .ref g4, .int (nI tp), .int w6, .int w7, .int w8, .int w9, .int w10, .int w11, .int w12, .int w13, .int w14, .ref g15, .int w16, .ref g17, .int w18, .int w19, .ref g20, .int w21, .ref g22, .ref g23, .ref g24, .int w25, .int w26, .int w27, .ref g28, .ref g29, .int w30, .ref g31, .ref g32, .ref g33])), (g1, .inl (T 0, 282, .inl fa)), (g15, .inl (T 0, 10, .inl fh)), (g17, .inl (T 0, 94, .inl fk)), (g23, .inl (T 1, 3001, .inr (.inl fs))), (g24, .inl (T 0, 8192, .inl fc))] (q_m_soonest T n o w0 g1 g2 g3 g4 tp w6 w7 w8 w9 w10 w11 w12 w13 w14 g15 w16 g17 w18 w19 g20 w21 g22 g23 g24 w25 w26 w27 g28 g29 w30 g31 g32 g33 fa fh fk fs fc) := by
  refine Ct.of (cc := cX8_soonest) (maxL := 6) (ret := (some .int)) (by decide) (Nat.le_of_ble_eq_true rfl) ?_
  intro p e s m args below meth c A ls hC hnm V hl
  obtain ⟨hx, hb, hr, hml, hown, hts, hlocks⟩ := id hC
  generalize hH : s.heap = H at V ⊢
  clear hH
  have hl : lv_has ls 6 [(0, .ref o)] := hl
  generalize hlo : ([] : List Loc) = locs at V ⊢
  clear hlo
  have ms0 := ms_rf h_a
  have hn10 := h_a.1
  refine lv_aload_n hx hb dX8_soonest_0 rfl (lv_at hl 0 rfl) ?_
  refine lv_iconst (v := (nI 0)) hx hb dX8_soonest_1 (by decide +kernel) ?_
  refine g_put hC V (ci := 8) uwX8 tyX8 tyX8_ok nmX8 0 rfl rfl 0 (by decide) w_912 rfl rfl rfl rfl (Nat.le_of_ble_eq_true rfl) (ws' := [(o, .inr (8, [.int (nI 0), .ref g1, .ref g2, .ref g3, .ref g4, .int (nI tp), .int w6, .int w7, .int w8, .int w9, .int w10, .int w11, .int w12, .int w13, .int w14, .ref g15, .int w16, .ref g17, .int w18, .int w19, .ref g20, .int w21, .ref g22, .ref g23, .ref g24, .int w25, .int w26, .int w27, .ref g28, .ref g29, .int w30, .ref g31, .ref g32, .ref g33])), (g1, .inl (T 0, 282, .inl fa)), (g15, .inl (T 0, 10, .inl fh)), (g17, .inl (T 0, 94, .inl fk)), (g23, .inl (T 1, 3001, .inr (.inl fs))), (g24, .inl (T 0, 8192, .inl fc))]) rfl dX8_soonest_2 (fun H locs V => ?_)
  refine lv_aload_n hx hb dX8_soonest_5 rfl (lv_at hl 0 rfl) ?_
  refine g_get hC V (ci := 8) uwX8 0 rfl rfl 1 (by decide) w_913 rfl rfl dX8_soonest_6 ?_
  refine lv_iconst (v := (nI 0)) hx hb dX8_soonest_9 (by decide +kernel) ?_
  refine g_iald hC V 1 rfl (vp_in_nI (by decide) (by decide)) (v := (nI n)) (by rw [nI_clamp (by decide)]; first | rfl | exact h_a.2.1 | exact hf66.1.2.1 | exact hf134.1.2.1 | exact hf156.1.2.1) dX8_soonest_10 ?_
  refine lv_iconst (v := (nI 3)) hx hb dX8_soonest_11 (by decide +kernel) ?_
  refine lv_icmp_le (tgt := 18) hx hb dX8_soonest_12 (by decide) (fun c_1 => ?_) (fun c_1 => ?_)
  · skip
    have c_1 := b_le (by omega) (by omega) c_1
    refine lv_aload_n hx hb dX8_soonest_18 rfl (lv_at hl 0 rfl) ?_
    refine g_callVU (nA := 0) hC V hl.1 (m_doneMany l D T n o (nI 0) g1 g2 g3 g4 tp w6 w7 w8 w9 w10 w11 w12 w13 w14 g15 w16 g17 w18 w19 g20 w21 g22 g23 g24 w25 w26 w27 g28 g29 w30 g31 g32 g33 fa h_a) w_1158 w_1160 w_s56 w_9 w_1161 (by decide +kernel) rfl ⟨(Nat.le_of_ble_eq_true rfl), (Nat.le_of_ble_eq_true rfl)⟩ 0 (ci := 8) rfl rfl [0, 1] rfl rfl (Nat.le_of_ble_eq_true rfl) dX8_soonest_19 ⟨(Nat.le_of_ble_eq_true rfl), (Nat.le_of_ble_eq_true rfl)⟩ rfl (fun r w1 H locs hQ V => ?_)
    obtain ⟨z_2, rfl, rfl⟩ := hQ
    have V : gW D T A s [(o, .inr (8, [.int (nI 0), .ref g1, .ref g2, .ref g3, .ref g4, .int (nI tp), .int w6, .int w7, .int w8, .int w9, .int w10, .int w11, .int w12, .int w13, .int w14, .ref g15, .int w16, .ref g17, .int w18, .int w19, .ref g20, .int w21, .ref g22, .ref g23, .ref g24, .int w25, .int w26, .int w27, .ref g28, .ref g29, .int w30, .ref g31, .ref g32, .ref g33])), (g1, .inl (T 0, 282, .inl fa)), (g15, .inl (T 0, 10, .inl fh)), (g17, .inl (T 0, 94, .inl fk)), (g23, .inl (T 1, 3001, .inr (.inl fs))), (g24, .inl (T 0, 8192, .inl fc))] H locs := V _ [0, 0] rfl rfl rfl (by decide +kernel) rfl
    show W p l e _ s m args below meth c H locs _ _ _ (F0 m 22 ls [.int z_2])
    refine lv_aload_n hx hb dX8_soonest_22 rfl (lv_at hl 0 rfl) ?_
    refine g_get hC V (ci := 8) uwX8 0 rfl rfl 1 (by decide) w_913 rfl rfl dX8_soonest_23 ?_
    refine lv_iconst (v := (nI 0)) hx hb dX8_soonest_26 (by decide +kernel) ?_
    refine g_iald hC V 1 rfl (vp_in_nI (by decide) (by decide)) (v := (nI n)) (by rw [nI_clamp (by decide)]; first | rfl | exact h_a.2.1 | exact hf66.1.2.1 | exact hf134.1.2.1 | exact hf156.1.2.1) dX8_soonest_27 ?_
    refine lv_icmp_ne (tgt := 33) hx hb dX8_soonest_28 (by decide) (fun c_3 => ?_) (fun c_3 => ?_)
    · skip
      refine lv_aload_n hx hb dX8_soonest_33 rfl (lv_at hl 0 rfl) ?_
      refine g_callVU (nA := 0) hC V hl.1 (m_keeps l D T o (nI 0) g1 g2 g3 g4 tp w6 w7 w8 w9 w10 w11 w12 w13 w14 g15 w16 g17 w18 w19 g20 w21 g22 g23 g24 w25 w26 w27 g28 g29 w30 g31 g32 g33 fa fk) w_1146 w_1148 w_s53 w_9 w_1149 (by decide +kernel) rfl ⟨(Nat.le_of_ble_eq_true rfl), (Nat.le_of_ble_eq_true rfl)⟩ 0 (ci := 8) rfl rfl [0, 1, 3] rfl rfl (Nat.le_of_ble_eq_true rfl) dX8_soonest_34 ⟨(Nat.le_of_ble_eq_true rfl), (Nat.le_of_ble_eq_true rfl)⟩ rfl (fun r w1 H locs hQ V => ?_)
      obtain ⟨gk_4, rfl, rfl, f_5⟩ := hQ
      have V : gW D T A s [(o, .inr (8, [.int (nI 0), .ref g1, .ref g2, .ref g3, .ref g4, .int (nI tp), .int w6, .int w7, .int w8, .int w9, .int w10, .int w11, .int w12, .int w13, .int w14, .ref g15, .int w16, .ref g17, .int w18, .int w19, .ref g20, .int w21, .ref g22, .ref g23, .ref g24, .int w25, .int w26, .int w27, .ref g28, .ref g29, .int w30, .ref g31, .ref g32, .ref g33])), (g1, .inl (T 0, 282, .inl fa)), (g15, .inl (T 0, 10, .inl fh)), (g17, .inl (T 0, 94, .inl gk_4)), (g23, .inl (T 1, 3001, .inr (.inl fs))), (g24, .inl (T 0, 8192, .inl fc))] H locs := V _ [0, 0, 1] rfl rfl rfl (by decide +kernel) rfl
      show W p l e _ s m args below meth c H locs _ _ _ (F0 m 37 ls [])
      refine lv_iconst (v := (nI 0)) hx hb dX8_soonest_37 (by decide +kernel) ?_
      refine lv_istore_n (lv' := [(1, .int (nI 0)), (0, .ref o)]) hx hb dX8_soonest_38 rfl hl (by decide) rfl (fun ls hl => ?_)
      have L_6 : ∀ (fu : Nat) (k39 : Nat) (fz39 : Nat → Int32), k39 ≤ 8192 → (∀ i, i < k39 → fz39 i = nI 0) → 8192 - k39 < fu → ∀ (H : Heap) (locs : List Loc) (ls : Array Slot), gW D T A s [(o, .inr (8, [.int (nI 0), .ref g1, .ref g2, .ref g3, .ref g4, .int (nI tp), .int w6, .int w7, .int w8, .int w9, .int w10, .int w11, .int w12, .int w13, .int w14, .ref g15, .int w16, .ref g17, .int w18, .int w19, .ref g20, .int w21, .ref g22, .ref g23, .ref g24, .int w25, .int w26, .int w27, .ref g28, .ref g29, .int w30, .ref g31, .ref g32, .ref g33])), (g1, .inl (T 0, 282, .inl fa)), (g15, .inl (T 0, 10, .inl fh)), (g17, .inl (T 0, 94, .inl gk_4)), (g23, .inl (T 1, 3001, .inr (.inl fs))), (g24, .inl (T 0, 8192, .inl fz39))] H locs → lv_has ls 6 [(1, .int (nI k39)), (0, .ref o)] → W p l e (rmD 4 0 0) s m args below meth c H locs 0 0 (MQ below (gQ D A (q_m_soonest T n o w0 g1 g2 g3 g4 tp w6 w7 w8 w9 w10 w11 w12 w13 w14 g15 w16 g17 w18 w19 g20 w21 g22 g23 g24 w25 w26 w27 g28 g29 w30 g31 g32 g33 fa fh fk fs fc)) args s 0 0 A) (F0 m 39 ls []) := by
        intro fu_39
        induction fu_39 with
        | zero => intro k39 fz39 hk39 hfz hmu; exact absurd hmu (Nat.not_lt_zero _)
        | succ fu_39 ih_39 =>
          intro k39 fz39 hk39 hfz hmu_39 H locs ls V hl
          refine lv_iload_n hx hb dX8_soonest_39 rfl (lv_at hl 0 rfl) ?_
          refine lv_sipush (v := (nI 8192)) hx hb dX8_soonest_40 (by decide +kernel) ?_
          refine lv_icmp_ge (tgt := 59) hx hb dX8_soonest_43 (by decide) (fun c_7 => ?_) (fun c_7 => ?_)
          · skip
            have c_7 := b_le (by omega) (by omega) c_7
            have hz0 : TI 0 fz39 := ti_zero (fun i h => hfz i (by omega))
            have hs0 : SL 0 fs := fun i h => absurd h (Nat.not_lt_zero _)
            have h_3 : n ≤ 3 := by omega
            refine lv_aload_n hx hb dX8_soonest_59 rfl (lv_at hl 1 rfl) ?_
            refine lv_iconst (v := (nI 0)) hx hb dX8_soonest_60 (by decide +kernel) ?_
            refine g_put hC V (ci := 8) uwX8 tyX8 tyX8_ok nmX8 0 rfl rfl 25 (by decide) w_937 rfl rfl rfl rfl (Nat.le_of_ble_eq_true rfl) (ws' := [(o, .inr (8, [.int (nI 0), .ref g1, .ref g2, .ref g3, .ref g4, .int (nI tp), .int w6, .int w7, .int w8, .int w9, .int w10, .int w11, .int w12, .int w13, .int w14, .ref g15, .int w16, .ref g17, .int w18, .int w19, .ref g20, .int w21, .ref g22, .ref g23, .ref g24, .int (nI 0), .int w26, .int w27, .ref g28, .ref g29, .int w30, .ref g31, .ref g32, .ref g33])), (g1, .inl (T 0, 282, .inl fa)), (g15, .inl (T 0, 10, .inl fh)), (g17, .inl (T 0, 94, .inl gk_4)), (g23, .inl (T 1, 3001, .inr (.inl fs))), (g24, .inl (T 0, 8192, .inl fz39))]) rfl dX8_soonest_61 (fun H locs V => ?_)
            refine lv_iconst (v := (nI 0)) hx hb dX8_soonest_64 (by decide +kernel) ?_
            refine lv_istore_n (lv' := [(1, .int (nI 0)), (0, .ref o)]) hx hb dX8_soonest_65 rfl hl (by decide) rfl (fun ls hl => ?_)
            have L_8 : ∀ (fu : Nat) (k66 : Nat) (f66 : Nat → Int32), k66 ≤ n → MS n fa f66 → n - k66 < fu → ∀ (H : Heap) (locs : List Loc) (ls : Array Slot), gW D T A s [(o, .inr (8, [.int (nI 0), .ref g1, .ref g2, .ref g3, .ref g4, .int (nI tp), .int w6, .int w7, .int w8, .int w9, .int w10, .int w11, .int w12, .int w13, .int w14, .ref g15, .int w16, .ref g17, .int w18, .int w19, .ref g20, .int w21, .ref g22, .ref g23, .ref g24, .int (nI 0), .int w26, .int w27, .ref g28, .ref g29, .int w30, .ref g31, .ref g32, .ref g33])), (g1, .inl (T 0, 282, .inl f66)), (g15, .inl (T 0, 10, .inl fh)), (g17, .inl (T 0, 94, .inl gk_4)), (g23, .inl (T 1, 3001, .inr (.inl fs))), (g24, .inl (T 0, 8192, .inl fz39))] H locs → lv_has ls 6 [(1, .int (nI k66)), (0, .ref o)] → W p l e (rmD 4 0 0) s m args below meth c H locs 0 0 (MQ below (gQ D A (q_m_soonest T n o w0 g1 g2 g3 g4 tp w6 w7 w8 w9 w10 w11 w12 w13 w14 g15 w16 g17 w18 w19 g20 w21 g22 g23 g24 w25 w26 w27 g28 g29 w30 g31 g32 g33 fa fh fk fs fc)) args s 0 0 A) (F0 m 66 ls []) := by
              intro fu_66
              induction fu_66 with
              | zero => intro k66 f66 hk66 hf66 hmu; exact absurd hmu (Nat.not_lt_zero _)
              | succ fu_66 ih_66 =>
                intro k66 f66 hk66 hf66 hmu_66 H locs ls V hl
                refine lv_iload_n hx hb dX8_soonest_66 rfl (lv_at hl 0 rfl) ?_
                refine lv_aload_n hx hb dX8_soonest_67 rfl (lv_at hl 1 rfl) ?_
                refine g_get hC V (ci := 8) uwX8 0 rfl rfl 1 (by decide) w_913 rfl rfl dX8_soonest_68 ?_
                refine lv_iconst (v := (nI 0)) hx hb dX8_soonest_71 (by decide +kernel) ?_
                refine g_iald hC V 1 rfl (vp_in_nI (by decide) (by decide)) (v := (nI n)) (by rw [nI_clamp (by decide)]; first | rfl | exact h_a.2.1 | exact hf66.1.2.1 | exact hf134.1.2.1 | exact hf156.1.2.1) dX8_soonest_72 ?_
                refine lv_icmp_ge (tgt := 120) hx hb dX8_soonest_73 (by decide) (fun c_9 => ?_) (fun c_9 => ?_)
                · skip
                  have c_9 := b_le (by omega) (by omega) c_9
                  refine lv_aload_n hx hb dX8_soonest_120 rfl (lv_at hl 1 rfl) ?_
                  refine lv_aload_n hx hb dX8_soonest_121 rfl (lv_at hl 1 rfl) ?_
                  refine g_callVU (nA := 0) hC V hl.1 (m_state l D T n o (nI 0) g1 g2 g3 g4 tp w6 w7 w8 w9 w10 w11 w12 w13 w14 g15 w16 g17 w18 w19 g20 w21 g22 g23 g24 (nI 0) w26 w27 g28 g29 w30 g31 g32 g33 f66 hf66.1 (by first | assumption | omega)) w_1281 w_1283 w_s69 w_9 w_1284 (by decide +kernel) rfl ⟨(Nat.le_of_ble_eq_true rfl), (Nat.le_of_ble_eq_true rfl)⟩ 0 (ci := 8) rfl rfl [0, 1] rfl rfl (Nat.le_of_ble_eq_true rfl) dX8_soonest_122 ⟨(Nat.le_of_ble_eq_true rfl), (Nat.le_of_ble_eq_true rfl)⟩ rfl (fun r w1 H locs hQ V => ?_)
                  obtain ⟨r_10, rfl, rfl, f_11⟩ := hQ
                  have V : gW D T A s [(o, .inr (8, [.int (nI 0), .ref g1, .ref g2, .ref g3, .ref g4, .int (nI tp), .int w6, .int w7, .int w8, .int w9, .int w10, .int w11, .int w12, .int w13, .int w14, .ref g15, .int w16, .ref g17, .int w18, .int w19, .ref g20, .int w21, .ref g22, .ref g23, .ref g24, .int (nI 0), .int w26, .int w27, .ref g28, .ref g29, .int w30, .ref g31, .ref g32, .ref g33])), (g1, .inl (T 0, 282, .inl f66)), (g15, .inl (T 0, 10, .inl fh)), (g17, .inl (T 0, 94, .inl gk_4)), (g23, .inl (T 1, 3001, .inr (.inl fs))), (g24, .inl (T 0, 8192, .inl fz39))] H locs := V _ [0, 0] rfl rfl rfl (by decide +kernel) rfl
                  show W p l e _ s m args below meth c H locs _ _ _ (F0 m 125 ls [.long (Int64.ofNat r_10), .ref o])
                  have hr_ : r_10 < 549755813889 := Nat.lt_of_lt_of_le f_11 (Nat.le_trans (stB_le h_3) (by decide))
                  refine g_callVU (nA := 1) hC V hl.1 (m_meets l D T r_10 o (nI 0) g1 g2 g3 g4 tp w6 w7 w8 w9 w10 w11 w12 w13 w14 g15 w16 g17 w18 w19 g20 w21 g22 g23 g24 0 w26 w27 g28 g29 w30 g31 g32 g33 fs fz39 (by first | assumption | omega) (by first | assumption | omega) (by first | assumption | omega)) w_1286 w_1288 w_s70 w_9 w_1289 (by decide +kernel) rfl ⟨(Nat.le_of_ble_eq_true rfl), (Nat.le_of_ble_eq_true rfl)⟩ 0 (ci := 8) rfl rfl [0, 4, 5] rfl rfl (Nat.le_of_ble_eq_true rfl) dX8_soonest_125 ⟨(Nat.le_of_ble_eq_true rfl), (Nat.le_of_ble_eq_true rfl)⟩ rfl (fun r w1 H locs hQ V => ?_)
                  obtain ⟨sm2_12, gs_13, gt_14, rfl, rfl, f_15, f_16, f_17⟩ := hQ
                  have V : gW D T A s [(o, .inr (8, [.int (nI 0), .ref g1, .ref g2, .ref g3, .ref g4, .int (nI tp), .int w6, .int w7, .int w8, .int w9, .int w10, .int w11, .int w12, .int w13, .int w14, .ref g15, .int w16, .ref g17, .int w18, .int w19, .ref g20, .int w21, .ref g22, .ref g23, .ref g24, .int (nI sm2_12), .int w26, .int w27, .ref g28, .ref g29, .int w30, .ref g31, .ref g32, .ref g33])), (g1, .inl (T 0, 282, .inl f66)), (g15, .inl (T 0, 10, .inl fh)), (g17, .inl (T 0, 94, .inl gk_4)), (g23, .inl (T 1, 3001, .inr (.inl gs_13))), (g24, .inl (T 0, 8192, .inl gt_14))] H locs := V _ [0, 3, 0] rfl rfl rfl (by decide +kernel) rfl
                  show W p l e _ s m args below meth c H locs _ _ _ (F0 m 128 ls [])
                  refine lv_iconst (v := (nI 0)) hx hb dX8_soonest_128 (by decide +kernel) ?_
                  refine lv_istore_n (lv' := [(1, .int (nI 0)), (0, .ref o)]) hx hb dX8_soonest_129 rfl hl (by decide) rfl (fun ls hl => ?_)
                  refine lv_iconst (v := (-1)) hx hb dX8_soonest_130 (by decide +kernel) ?_
                  refine lv_istore_n (lv' := [(2, .int (-1)), (1, .int (nI 0)), (0, .ref o)]) hx hb dX8_soonest_131 rfl hl (by decide) rfl (fun ls hl => ?_)
                  refine lv_iconst (v := (nI 1)) hx hb dX8_soonest_132 (by decide +kernel) ?_
                  refine lv_istore_n (lv' := [(3, .int (nI 1)), (2, .int (-1)), (1, .int (nI 0)), (0, .ref o)]) hx hb dX8_soonest_133 rfl hl (by decide) rfl (fun ls hl => ?_)
                  have L_18 : ∀ (fu : Nat) (fr_ : Nat) (x134_3 : Int32) (x134_2 : Int32) (sn_ : Nat) (bv : Int32) (gx : Nat → Int32) (gy : Nat → Int64) (gz : Nat → Int32) (f134 : Nat → Int32), MS n fa f134 → TI sn_ gz → SL sn_ gy → fr_ ≤ sn_ → 3002 - fr_ < fu → ∀ (H : Heap) (locs : List Loc) (ls : Array Slot), gW D T A s [(o, .inr (8, [.int (nI 0), .ref g1, .ref g2, .ref g3, .ref g4, .int (nI tp), .int w6, .int w7, .int w8, .int w9, .int w10, .int w11, .int w12, .int w13, .int w14, .ref g15, .int bv, .ref g17, .int w18, .int w19, .ref g20, .int w21, .ref g22, .ref g23, .ref g24, .int (nI sn_), .int w26, .int w27, .ref g28, .ref g29, .int w30, .ref g31, .ref g32, .ref g33])), (g1, .inl (T 0, 282, .inl f134)), (g15, .inl (T 0, 10, .inl gx)), (g17, .inl (T 0, 94, .inl gk_4)), (g23, .inl (T 1, 3001, .inr (.inl gy))), (g24, .inl (T 0, 8192, .inl gz))] H locs → lv_has ls 6 [(3, .int x134_3), (2, .int x134_2), (1, .int (nI fr_)), (0, .ref o)] → W p l e (rmD 4 0 0) s m args below meth c H locs 0 0 (MQ below (gQ D A (q_m_soonest T n o w0 g1 g2 g3 g4 tp w6 w7 w8 w9 w10 w11 w12 w13 w14 g15 w16 g17 w18 w19 g20 w21 g22 g23 g24 w25 w26 w27 g28 g29 w30 g31 g32 g33 fa fh fk fs fc)) args s 0 0 A) (F0 m 134 ls []) := by
                    intro fu_134
                    induction fu_134 with
                    | zero => intro fr_ x134_3 x134_2 sn_ bv gx gy gz f134 hf134 hti hsl hfr hmu; exact absurd hmu (Nat.not_lt_zero _)
                    | succ fu_134 ih_134 =>
                      intro fr_ x134_3 x134_2 sn_ bv gx gy gz f134 hf134 hti hsl hfr hmu_134 H locs ls V hl
                      have hsb := hti.1
                      refine lv_iload_n hx hb dX8_soonest_134 rfl (lv_at hl 1 rfl) ?_
                      refine lv_iconst (v := (-1)) hx hb dX8_soonest_135 (by decide +kernel) ?_
                      refine lv_icmp_ne (tgt := 217) hx hb dX8_soonest_136 (by decide) (fun c_19 => ?_) (fun c_19 => ?_)
                      · skip
                        refine lv_aload_n hx hb dX8_soonest_217 rfl (lv_at hl 3 rfl) ?_
                        refine g_callVU (nA := 0) hC V hl.1 (m_isAgain l D T o (nI 0) g1 g2 g3 g4 tp w6 w7 w8 w9 w10 w11 w12 w13 w14 g15 bv g17 w18 w19 g20 w21 g22 g23 g24 (nI sn_) w26 w27 g28 g29 w30 g31 g32 g33 f134 gk_4) w_1162 w_1164 w_s57 w_9 w_1165 (by decide +kernel) rfl ⟨(Nat.le_of_ble_eq_true rfl), (Nat.le_of_ble_eq_true rfl)⟩ 0 (ci := 8) rfl rfl [0, 1, 3] rfl rfl (Nat.le_of_ble_eq_true rfl) dX8_soonest_218 ⟨(Nat.le_of_ble_eq_true rfl), (Nat.le_of_ble_eq_true rfl)⟩ rfl (fun r w1 H locs hQ V => ?_)
                        obtain ⟨ga_20, rfl, rfl, f_21, f_22⟩ := hQ
                        have V : gW D T A s [(o, .inr (8, [.int (nI 0), .ref g1, .ref g2, .ref g3, .ref g4, .int (nI tp), .int w6, .int w7, .int w8, .int w9, .int w10, .int w11, .int w12, .int w13, .int w14, .ref g15, .int bv, .ref g17, .int w18, .int w19, .ref g20, .int w21, .ref g22, .ref g23, .ref g24, .int (nI sn_), .int w26, .int w27, .ref g28, .ref g29, .int w30, .ref g31, .ref g32, .ref g33])), (g1, .inl (T 0, 282, .inl ga_20)), (g15, .inl (T 0, 10, .inl gx)), (g17, .inl (T 0, 94, .inl gk_4)), (g23, .inl (T 1, 3001, .inr (.inl gy))), (g24, .inl (T 0, 8192, .inl gz))] H locs := V _ [0, 0, 1] rfl rfl rfl (by decide +kernel) rfl
                        show W p l e _ s m args below meth c H locs _ _ _ (F0 m 221 ls [])
                        have ega_20 : ga_20 = fa := funext (fun j => if h : j < 94 then (f_21 j h).trans (f_5 j h) else (f_22 j (by omega)).trans ((by assumption : MS n fa _).2 j (by omega)))
                        rw [ega_20] at V
                        refine lv_iload_n hx hb dX8_soonest_221 rfl (lv_at hl 1 rfl) ?_
                        exact g_iret (Qr := (q_m_soonest T n o w0 g1 g2 g3 g4 tp w6 w7 w8 w9 w10 w11 w12 w13 w14 g15 w16 g17 w18 w19 g20 w21 g22 g23 g24 w25 w26 w27 g28 g29 w30 g31 g32 g33 fa fh fk fs fc)) hC V ⟨(Nat.le_of_ble_eq_true rfl), (Nat.le_of_ble_eq_true rfl)⟩ ⟨x134_2, (nI sn_), bv, gx, gk_4, gy, gz, rfl, rfl⟩ dX8_soonest_222
                      · skip
                        refine lv_iload_n hx hb dX8_soonest_139 rfl (lv_at hl 2 rfl) ?_
                        refine lv_aload_n hx hb dX8_soonest_140 rfl (lv_at hl 3 rfl) ?_
                        refine g_get hC V (ci := 8) uwX8 0 rfl rfl 25 (by decide) w_937 rfl rfl dX8_soonest_141 ?_
                        refine lv_icmp_ge (tgt := 217) hx hb dX8_soonest_144 (by decide) (fun c_23 => ?_) (fun c_23 => ?_)
                        · skip
                          have c_23 := b_le (by omega) (by omega) c_23
                          refine lv_aload_n hx hb dX8_soonest_217 rfl (lv_at hl 3 rfl) ?_
                          refine g_callVU (nA := 0) hC V hl.1 (m_isAgain l D T o (nI 0) g1 g2 g3 g4 tp w6 w7 w8 w9 w10 w11 w12 w13 w14 g15 bv g17 w18 w19 g20 w21 g22 g23 g24 (nI sn_) w26 w27 g28 g29 w30 g31 g32 g33 f134 gk_4) w_1162 w_1164 w_s57 w_9 w_1165 (by decide +kernel) rfl ⟨(Nat.le_of_ble_eq_true rfl), (Nat.le_of_ble_eq_true rfl)⟩ 0 (ci := 8) rfl rfl [0, 1, 3] rfl rfl (Nat.le_of_ble_eq_true rfl) dX8_soonest_218 ⟨(Nat.le_of_ble_eq_true rfl), (Nat.le_of_ble_eq_true rfl)⟩ rfl (fun r w1 H locs hQ V => ?_)
                          obtain ⟨ga_24, rfl, rfl, f_25, f_26⟩ := hQ
                          have V : gW D T A s [(o, .inr (8, [.int (nI 0), .ref g1, .ref g2, .ref g3, .ref g4, .int (nI tp), .int w6, .int w7, .int w8, .int w9, .int w10, .int w11, .int w12, .int w13, .int w14, .ref g15, .int bv, .ref g17, .int w18, .int w19, .ref g20, .int w21, .ref g22, .ref g23, .ref g24, .int (nI sn_), .int w26, .int w27, .ref g28, .ref g29, .int w30, .ref g31, .ref g32, .ref g33])), (g1, .inl (T 0, 282, .inl ga_24)), (g15, .inl (T 0, 10, .inl gx)), (g17, .inl (T 0, 94, .inl gk_4)), (g23, .inl (T 1, 3001, .inr (.inl gy))), (g24, .inl (T 0, 8192, .inl gz))] H locs := V _ [0, 0, 1] rfl rfl rfl (by decide +kernel) rfl
                          show W p l e _ s m args below meth c H locs _ _ _ (F0 m 221 ls [])
                          have ega_24 : ga_24 = fa := funext (fun j => if h : j < 94 then (f_25 j h).trans (f_5 j h) else (f_26 j (by omega)).trans ((by assumption : MS n fa _).2 j (by omega)))
                          rw [ega_24] at V
                          refine lv_iload_n hx hb dX8_soonest_221 rfl (lv_at hl 1 rfl) ?_
                          exact g_iret (Qr := (q_m_soonest T n o w0 g1 g2 g3 g4 tp w6 w7 w8 w9 w10 w11 w12 w13 w14 g15 w16 g17 w18 w19 g20 w21 g22 g23 g24 w25 w26 w27 g28 g29 w30 g31 g32 g33 fa fh fk fs fc)) hC V ⟨(Nat.le_of_ble_eq_true rfl), (Nat.le_of_ble_eq_true rfl)⟩ ⟨x134_2, (nI sn_), bv, gx, gk_4, gy, gz, rfl, rfl⟩ dX8_soonest_222
                        · skip
                          have c_23 := b_nle (by omega) (by omega) c_23
                          refine lv_aload_n hx hb dX8_soonest_147 rfl (lv_at hl 3 rfl) ?_
                          refine g_get hC V (ci := 8) uwX8 0 rfl rfl 25 (by decide) w_937 rfl rfl dX8_soonest_148 ?_
                          refine lv_istore (lv' := [(4, .int (nI sn_)), (3, .int x134_3), (2, .int x134_2), (1, .int (nI fr_)), (0, .ref o)]) hx hb dX8_soonest_151 hl (by decide) rfl (fun ls hl => ?_)
                          refine lv_iload_n hx hb dX8_soonest_153 rfl (lv_at hl 3 rfl) ?_
                          refine lv_istore (lv' := [(5, .int (nI fr_)), (4, .int (nI sn_)), (3, .int x134_3), (2, .int x134_2), (1, .int (nI fr_)), (0, .ref o)]) hx hb dX8_soonest_154 hl (by decide) rfl (fun ls hl => ?_)
                          have L_27 : ∀ (fu : Nat) (k156 : Nat) (x156_2 : Int32) (so_ : Nat) (bw : Int32) (gx2 : Nat → Int32) (gy2 : Nat → Int64) (gz2 : Nat → Int32) (f156 : Nat → Int32), k156 ≤ sn_ → MS n fa f156 → TI so_ gz2 → SL so_ gy2 → sn_ ≤ so_ → sn_ - k156 < fu → ∀ (H : Heap) (locs : List Loc) (ls : Array Slot), gW D T A s [(o, .inr (8, [.int (nI 0), .ref g1, .ref g2, .ref g3, .ref g4, .int (nI tp), .int w6, .int w7, .int w8, .int w9, .int w10, .int w11, .int w12, .int w13, .int w14, .ref g15, .int bw, .ref g17, .int w18, .int w19, .ref g20, .int w21, .ref g22, .ref g23, .ref g24, .int (nI so_), .int w26, .int w27, .ref g28, .ref g29, .int w30, .ref g31, .ref g32, .ref g33])), (g1, .inl (T 0, 282, .inl f156)), (g15, .inl (T 0, 10, .inl gx2)), (g17, .inl (T 0, 94, .inl gk_4)), (g23, .inl (T 1, 3001, .inr (.inl gy2))), (g24, .inl (T 0, 8192, .inl gz2))] H locs → lv_has ls 6 [(5, .int (nI k156)), (4, .int (nI sn_)), (3, .int x134_3), (2, .int x156_2), (1, .int (nI fr_)), (0, .ref o)] → W p l e (rmD 4 0 0) s m args below meth c H locs 0 0 (MQ below (gQ D A (q_m_soonest T n o w0 g1 g2 g3 g4 tp w6 w7 w8 w9 w10 w11 w12 w13 w14 g15 w16 g17 w18 w19 g20 w21 g22 g23 g24 w25 w26 w27 g28 g29 w30 g31 g32 g33 fa fh fk fs fc)) args s 0 0 A) (F0 m 156 ls []) := by
                            intro fu_156
                            induction fu_156 with
                            | zero => intro k156 x156_2 so_ bw gx2 gy2 gz2 f156 hk156 hf156 hti2 hsl2 hso hmu; exact absurd hmu (Nat.not_lt_zero _)
                            | succ fu_156 ih_156 =>
                              intro k156 x156_2 so_ bw gx2 gy2 gz2 f156 hk156 hf156 hti2 hsl2 hso hmu_156 H locs ls V hl
                              have hsb2 := hti2.1
                              refine lv_iload hx hb dX8_soonest_156 (lv_at hl 0 rfl) ?_
                              refine lv_iload hx hb dX8_soonest_158 (lv_at hl 1 rfl) ?_
                              refine lv_icmp_ge (tgt := 190) hx hb dX8_soonest_160 (by decide) (fun c_28 => ?_) (fun c_28 => ?_)
                              · skip
                                have c_28 := b_le (by omega) (by omega) c_28
                                refine lv_iload_n hx hb dX8_soonest_190 rfl (lv_at hl 3 rfl) ?_
                                refine lv_iconst (v := (-1)) hx hb dX8_soonest_191 (by decide +kernel) ?_
                                refine lv_icmp_ne (tgt := 208) hx hb dX8_soonest_192 (by decide) (fun c_29 => ?_) (fun c_29 => ?_)
                                · skip
                                  refine lv_iload hx hb dX8_soonest_208 (lv_at hl 1 rfl) ?_
                                  refine lv_istore_n (lv' := [(1, .int (nI sn_)), (5, .int (nI k156)), (4, .int (nI sn_)), (3, .int x134_3), (2, .int x156_2), (0, .ref o)]) hx hb dX8_soonest_210 rfl hl (by decide) rfl (fun ls hl => ?_)
                                  refine lv_iinc (v := (x134_3 + 1)) (lv' := [(3, .int (x134_3 + 1)), (1, .int (nI sn_)), (5, .int (nI k156)), (4, .int (nI sn_)), (2, .int x156_2), (0, .ref o)]) hx hb dX8_soonest_211 hl (k := 3) rfl rfl (by decide) rfl (fun ls hl => ?_)
                                  refine lv_goto (tgt := 134) hx hb dX8_soonest_214 (by decide) ?_
                                  exact ih_134 sn_ (x134_3 + 1) x156_2 so_ bw gx2 gy2 gz2 f156 (by assumption) (by assumption) (by assumption) (by omega) (by omega) _ _ _ V (lv_sub hl [0, 4, 1, 5] rfl)
                                · skip
                                  refine lv_aload_n hx hb dX8_soonest_195 rfl (lv_at hl 5 rfl) ?_
                                  refine g_get hC V (ci := 8) uwX8 0 rfl rfl 25 (by decide) w_937 rfl rfl dX8_soonest_196 ?_
                                  refine lv_sipush (v := (nI 3000)) hx hb dX8_soonest_199 (by decide +kernel) ?_
                                  refine lv_icmp_le (tgt := 208) hx hb dX8_soonest_202 (by decide) (fun c_30 => ?_) (fun c_30 => ?_)
                                  · skip
                                    have c_30 := b_le (by omega) (by omega) c_30
                                    refine lv_iload hx hb dX8_soonest_208 (lv_at hl 1 rfl) ?_
                                    refine lv_istore_n (lv' := [(1, .int (nI sn_)), (5, .int (nI k156)), (4, .int (nI sn_)), (3, .int x134_3), (2, .int x156_2), (0, .ref o)]) hx hb dX8_soonest_210 rfl hl (by decide) rfl (fun ls hl => ?_)
                                    refine lv_iinc (v := (x134_3 + 1)) (lv' := [(3, .int (x134_3 + 1)), (1, .int (nI sn_)), (5, .int (nI k156)), (4, .int (nI sn_)), (2, .int x156_2), (0, .ref o)]) hx hb dX8_soonest_211 hl (k := 3) rfl rfl (by decide) rfl (fun ls hl => ?_)
                                    refine lv_goto (tgt := 134) hx hb dX8_soonest_214 (by decide) ?_
                                    exact ih_134 sn_ (x134_3 + 1) x156_2 so_ bw gx2 gy2 gz2 f156 (by assumption) (by assumption) (by assumption) (by omega) (by omega) _ _ _ V (lv_sub hl [0, 4, 1, 5] rfl)
                                  · skip
                                    have c_30 := b_nle (by omega) (by omega) c_30
                                    refine lv_bipush (v := (-4)) hx hb dX8_soonest_205 (by decide +kernel) ?_
                                    refine lv_istore_n (lv' := [(2, .int (-4)), (5, .int (nI k156)), (4, .int (nI sn_)), (3, .int x134_3), (1, .int (nI fr_)), (0, .ref o)]) hx hb dX8_soonest_207 rfl hl (by decide) rfl (fun ls hl => ?_)
                                    refine lv_iload hx hb dX8_soonest_208 (lv_at hl 2 rfl) ?_
                                    refine lv_istore_n (lv' := [(1, .int (nI sn_)), (2, .int (-4)), (5, .int (nI k156)), (4, .int (nI sn_)), (3, .int x134_3), (0, .ref o)]) hx hb dX8_soonest_210 rfl hl (by decide) rfl (fun ls hl => ?_)
                                    refine lv_iinc (v := (x134_3 + 1)) (lv' := [(3, .int (x134_3 + 1)), (1, .int (nI sn_)), (2, .int (-4)), (5, .int (nI k156)), (4, .int (nI sn_)), (0, .ref o)]) hx hb dX8_soonest_211 hl (k := 4) rfl rfl (by decide) rfl (fun ls hl => ?_)
                                    refine lv_goto (tgt := 134) hx hb dX8_soonest_214 (by decide) ?_
                                    exact ih_134 sn_ (x134_3 + 1) (-4) so_ bw gx2 gy2 gz2 f156 (by assumption) (by assumption) (by assumption) (by omega) (by omega) _ _ _ V (lv_sub hl [0, 2, 1, 5] rfl)
                              · skip
                                have c_28 := b_nle (by omega) (by omega) c_28
                                refine lv_iload_n hx hb dX8_soonest_163 rfl (lv_at hl 3 rfl) ?_
                                refine lv_iconst (v := (-1)) hx hb dX8_soonest_164 (by decide +kernel) ?_
                                refine lv_icmp_ne (tgt := 190) hx hb dX8_soonest_165 (by decide) (fun c_31 => ?_) (fun c_31 => ?_)
                                · skip
                                  refine lv_iload_n hx hb dX8_soonest_190 rfl (lv_at hl 3 rfl) ?_
                                  refine lv_iconst (v := (-1)) hx hb dX8_soonest_191 (by decide +kernel) ?_
                                  refine lv_icmp_ne (tgt := 208) hx hb dX8_soonest_192 (by decide) (fun c_32 => ?_) (fun c_32 => ?_)
                                  · skip
                                    refine lv_iload hx hb dX8_soonest_208 (lv_at hl 1 rfl) ?_
                                    refine lv_istore_n (lv' := [(1, .int (nI sn_)), (5, .int (nI k156)), (4, .int (nI sn_)), (3, .int x134_3), (2, .int x156_2), (0, .ref o)]) hx hb dX8_soonest_210 rfl hl (by decide) rfl (fun ls hl => ?_)
                                    refine lv_iinc (v := (x134_3 + 1)) (lv' := [(3, .int (x134_3 + 1)), (1, .int (nI sn_)), (5, .int (nI k156)), (4, .int (nI sn_)), (2, .int x156_2), (0, .ref o)]) hx hb dX8_soonest_211 hl (k := 3) rfl rfl (by decide) rfl (fun ls hl => ?_)
                                    refine lv_goto (tgt := 134) hx hb dX8_soonest_214 (by decide) ?_
                                    exact ih_134 sn_ (x134_3 + 1) x156_2 so_ bw gx2 gy2 gz2 f156 (by assumption) (by assumption) (by assumption) (by omega) (by omega) _ _ _ V (lv_sub hl [0, 4, 1, 5] rfl)
                                  · skip
                                    refine lv_aload_n hx hb dX8_soonest_195 rfl (lv_at hl 5 rfl) ?_
                                    refine g_get hC V (ci := 8) uwX8 0 rfl rfl 25 (by decide) w_937 rfl rfl dX8_soonest_196 ?_
                                    refine lv_sipush (v := (nI 3000)) hx hb dX8_soonest_199 (by decide +kernel) ?_
                                    refine lv_icmp_le (tgt := 208) hx hb dX8_soonest_202 (by decide) (fun c_33 => ?_) (fun c_33 => ?_)
                                    · skip
                                      have c_33 := b_le (by omega) (by omega) c_33
                                      refine lv_iload hx hb dX8_soonest_208 (lv_at hl 1 rfl) ?_
                                      refine lv_istore_n (lv' := [(1, .int (nI sn_)), (5, .int (nI k156)), (4, .int (nI sn_)), (3, .int x134_3), (2, .int x156_2), (0, .ref o)]) hx hb dX8_soonest_210 rfl hl (by decide) rfl (fun ls hl => ?_)
                                      refine lv_iinc (v := (x134_3 + 1)) (lv' := [(3, .int (x134_3 + 1)), (1, .int (nI sn_)), (5, .int (nI k156)), (4, .int (nI sn_)), (2, .int x156_2), (0, .ref o)]) hx hb dX8_soonest_211 hl (k := 3) rfl rfl (by decide) rfl (fun ls hl => ?_)
                                      refine lv_goto (tgt := 134) hx hb dX8_soonest_214 (by decide) ?_
                                      exact ih_134 sn_ (x134_3 + 1) x156_2 so_ bw gx2 gy2 gz2 f156 (by assumption) (by assumption) (by assumption) (by omega) (by omega) _ _ _ V (lv_sub hl [0, 4, 1, 5] rfl)
                                    · skip
                                      have c_33 := b_nle (by omega) (by omega) c_33
                                      refine lv_bipush (v := (-4)) hx hb dX8_soonest_205 (by decide +kernel) ?_
                                      refine lv_istore_n (lv' := [(2, .int (-4)), (5, .int (nI k156)), (4, .int (nI sn_)), (3, .int x134_3), (1, .int (nI fr_)), (0, .ref o)]) hx hb dX8_soonest_207 rfl hl (by decide) rfl (fun ls hl => ?_)
                                      refine lv_iload hx hb dX8_soonest_208 (lv_at hl 2 rfl) ?_
                                      refine lv_istore_n (lv' := [(1, .int (nI sn_)), (2, .int (-4)), (5, .int (nI k156)), (4, .int (nI sn_)), (3, .int x134_3), (0, .ref o)]) hx hb dX8_soonest_210 rfl hl (by decide) rfl (fun ls hl => ?_)
                                      refine lv_iinc (v := (x134_3 + 1)) (lv' := [(3, .int (x134_3 + 1)), (1, .int (nI sn_)), (2, .int (-4)), (5, .int (nI k156)), (4, .int (nI sn_)), (0, .ref o)]) hx hb dX8_soonest_211 hl (k := 4) rfl rfl (by decide) rfl (fun ls hl => ?_)
                                      refine lv_goto (tgt := 134) hx hb dX8_soonest_214 (by decide) ?_
                                      exact ih_134 sn_ (x134_3 + 1) (-4) so_ bw gx2 gy2 gz2 f156 (by assumption) (by assumption) (by assumption) (by omega) (by omega) _ _ _ V (lv_sub hl [0, 2, 1, 5] rfl)
                                · skip
                                  refine lv_aload_n hx hb dX8_soonest_168 rfl (lv_at hl 5 rfl) ?_
                                  refine lv_aload_n hx hb dX8_soonest_169 rfl (lv_at hl 5 rfl) ?_
                                  refine g_get hC V (ci := 8) uwX8 0 rfl rfl 23 (by decide) w_935 rfl rfl dX8_soonest_170 ?_
                                  refine lv_iload hx hb dX8_soonest_173 (lv_at hl 0 rfl) ?_
                                  refine g_lald hC V 4 rfl (vp_in_nI (by omega) (by omega)) (v := (gy2 k156)) (congrArg _ (nI_clamp (by omega))) dX8_soonest_175 ?_
                                  obtain ⟨sv_, hsv_, esv_⟩ := hsl2 k156 (by omega)
                                  refine g_vl (y := Int64.ofNat sv_) esv_ ?_
                                  refine g_callVU (nA := 1) hC V hl.1 (m_doesAll l D T sv_ n o (nI 0) g1 g2 g3 g4 tp w6 w7 w8 w9 w10 w11 w12 w13 w14 g15 bw g17 w18 w19 g20 w21 g22 g23 g24 so_ w26 w27 g28 g29 w30 g31 g32 g33 f156 gx2 gy2 gz2 hf156.1 (by first | assumption | omega) (by first | assumption | omega) (by first | assumption | omega) (by first | assumption | omega)) w_1291 w_1293 w_s71 w_9 w_1294 (by decide +kernel) rfl ⟨(Nat.le_of_ble_eq_true rfl), (Nat.le_of_ble_eq_true rfl)⟩ 0 (ci := 8) rfl rfl [0, 1, 2, 4, 5] rfl rfl (Nat.le_of_ble_eq_true rfl) dX8_soonest_176 ⟨(Nat.le_of_ble_eq_true rfl), (Nat.le_of_ble_eq_true rfl)⟩ rfl (fun r w1 H locs hQ V => ?_)
                                  rcases hQ with ⟨bm_34, ga_35, gh_36, sm2_37, gs_38, gt_39, rfl, rfl, f_40, f_41, f_42, f_43⟩ | ⟨bm_44, ga_45, gh_46, sm2_47, gs_48, gt_49, rfl, rfl, f_50, f_51, f_52, f_53⟩
                                  · have V : gW D T A s [(o, .inr (8, [.int (nI 0), .ref g1, .ref g2, .ref g3, .ref g4, .int (nI tp), .int w6, .int w7, .int w8, .int w9, .int w10, .int w11, .int w12, .int w13, .int w14, .ref g15, .int bm_34, .ref g17, .int w18, .int w19, .ref g20, .int w21, .ref g22, .ref g23, .ref g24, .int (nI sm2_37), .int w26, .int w27, .ref g28, .ref g29, .int w30, .ref g31, .ref g32, .ref g33])), (g1, .inl (T 0, 282, .inl ga_35)), (g15, .inl (T 0, 10, .inl gh_36)), (g17, .inl (T 0, 94, .inl gk_4)), (g23, .inl (T 1, 3001, .inr (.inl gs_38))), (g24, .inl (T 0, 8192, .inl gt_39))] H locs := V _ [0, 0, 0, 1, 0] rfl rfl rfl (by decide +kernel) rfl
                                    show W p l e _ s m args below meth c H locs _ _ _ (F0 m 179 ls [.int (nI 1)])
                                    have hga_35 : MS n fa ga_35 := ms_tr (by assumption) f_40
                                    refine lv_if_eq (tgt := 184) hx hb dX8_soonest_179 (by decide) (fun c => absurd (show (nI 1) = 0 from c) (by decide +kernel)) (fun _ => ?_)
                                    refine lv_iload_n hx hb dX8_soonest_182 rfl (lv_at hl 2 rfl) ?_
                                    refine lv_istore_n (lv' := [(2, .int x134_3), (5, .int (nI k156)), (4, .int (nI sn_)), (3, .int x134_3), (1, .int (nI fr_)), (0, .ref o)]) hx hb dX8_soonest_183 rfl hl (by decide) rfl (fun ls hl => ?_)
                                    refine lv_iinc (v := (nI (k156 + 1))) (lv' := [(5, .int (nI (k156 + 1))), (2, .int x134_3), (4, .int (nI sn_)), (3, .int x134_3), (1, .int (nI fr_)), (0, .ref o)]) hx hb dX8_soonest_184 hl (k := 1) rfl (nI_1 _) (by decide) rfl (fun ls hl => ?_)
                                    refine lv_goto (tgt := 156) hx hb dX8_soonest_187 (by decide) ?_
                                    exact ih_156 (k156 + 1) x134_3 sm2_37 bm_34 gh_36 gs_38 gt_39 ga_35 (by omega) (by assumption) (by assumption) (by assumption) (by omega) (by omega) _ _ _ V (lv_sub hl [0, 2, 3, 1, 4, 5] rfl)
                                  · have V : gW D T A s [(o, .inr (8, [.int (nI 0), .ref g1, .ref g2, .ref g3, .ref g4, .int (nI tp), .int w6, .int w7, .int w8, .int w9, .int w10, .int w11, .int w12, .int w13, .int w14, .ref g15, .int bm_44, .ref g17, .int w18, .int w19, .ref g20, .int w21, .ref g22, .ref g23, .ref g24, .int (nI sm2_47), .int w26, .int w27, .ref g28, .ref g29, .int w30, .ref g31, .ref g32, .ref g33])), (g1, .inl (T 0, 282, .inl ga_45)), (g15, .inl (T 0, 10, .inl gh_46)), (g17, .inl (T 0, 94, .inl gk_4)), (g23, .inl (T 1, 3001, .inr (.inl gs_48))), (g24, .inl (T 0, 8192, .inl gt_49))] H locs := V _ [0, 0, 0, 1, 0] rfl rfl rfl (by decide +kernel) rfl
                                    show W p l e _ s m args below meth c H locs _ _ _ (F0 m 179 ls [.int (nI 0)])
                                    have hga_45 : MS n fa ga_45 := ms_tr (by assumption) f_50
                                    refine lv_if_eq (tgt := 184) hx hb dX8_soonest_179 (by decide) (fun _ => ?_) (fun c => absurd (show (nI 0) = 0 by decide +kernel) c)
                                    refine lv_iinc (v := (nI (k156 + 1))) (lv' := [(5, .int (nI (k156 + 1))), (4, .int (nI sn_)), (3, .int x134_3), (2, .int x156_2), (1, .int (nI fr_)), (0, .ref o)]) hx hb dX8_soonest_184 hl (k := 0) rfl (nI_1 _) (by decide) rfl (fun ls hl => ?_)
                                    refine lv_goto (tgt := 156) hx hb dX8_soonest_187 (by decide) ?_
                                    exact ih_156 (k156 + 1) x156_2 sm2_47 bm_44 gh_46 gs_48 gt_49 ga_45 (by omega) (by assumption) (by assumption) (by assumption) (by omega) (by omega) _ _ _ V (lv_sub hl [0, 1, 2, 3, 4, 5] rfl)
                          exact L_27 _ fr_ x134_2 sn_ bv gx gy gz f134 (by omega) (by assumption) (by assumption) (by assumption) (by omega) (Nat.lt_succ_self _) _ _ _ V (lv_sub hl [0, 1, 2, 3, 4, 5] rfl)
                  exact L_18 _ 0 (nI 1) (-1) sm2_12 w16 fh gs_13 gt_14 f66 (by assumption) (by assumption) (by assumption) (by omega) (Nat.lt_succ_self _) _ _ _ V (lv_sub hl [0, 1, 2, 3] rfl)
                · skip
                  have c_9 := b_nle (by omega) (by omega) c_9
                  refine lv_aload_n hx hb dX8_soonest_76 rfl (lv_at hl 1 rfl) ?_
                  refine g_get hC V (ci := 8) uwX8 0 rfl rfl 1 (by decide) w_913 rfl rfl dX8_soonest_77 ?_
                  refine lv_bipush (v := (nI 64)) hx hb dX8_soonest_80 (by decide +kernel) ?_
                  refine lv_iload_n hx hb dX8_soonest_82 rfl (lv_at hl 0 rfl) ?_
                  refine lv_iadd hx hb dX8_soonest_83 ?_
                  refine g_vi (y := (nI (64 + k66))) (nI_add _ _) ?_
                  refine lv_aload_n hx hb dX8_soonest_84 rfl (lv_at hl 1 rfl) ?_
                  refine lv_iload_n hx hb dX8_soonest_85 rfl (lv_at hl 0 rfl) ?_
                  refine g_callVU (nA := 1) hC V hl.1 (m_isDone l D T o k66 (nI 0) g1 g2 g3 g4 tp w6 w7 w8 w9 w10 w11 w12 w13 w14 g15 w16 g17 w18 w19 g20 w21 g22 g23 g24 (nI 0) w26 w27 g28 g29 w30 g31 g32 g33 f66 (by first | assumption | omega)) w_1088 w_1090 w_s47 w_9 w_1091 (by decide +kernel) rfl ⟨(Nat.le_of_ble_eq_true rfl), (Nat.le_of_ble_eq_true rfl)⟩ 0 (ci := 8) rfl rfl [0, 1] rfl rfl (Nat.le_of_ble_eq_true rfl) dX8_soonest_86 ⟨(Nat.le_of_ble_eq_true rfl), (Nat.le_of_ble_eq_true rfl)⟩ rfl (fun r w1 H locs hQ V => ?_)
                  rcases hQ with ⟨rfl, rfl, f_54⟩ | ⟨rfl, rfl, f_55⟩
                  · have V : gW D T A s [(o, .inr (8, [.int (nI 0), .ref g1, .ref g2, .ref g3, .ref g4, .int (nI tp), .int w6, .int w7, .int w8, .int w9, .int w10, .int w11, .int w12, .int w13, .int w14, .ref g15, .int w16, .ref g17, .int w18, .int w19, .ref g20, .int w21, .ref g22, .ref g23, .ref g24, .int (nI 0), .int w26, .int w27, .ref g28, .ref g29, .int w30, .ref g31, .ref g32, .ref g33])), (g1, .inl (T 0, 282, .inl f66)), (g15, .inl (T 0, 10, .inl fh)), (g17, .inl (T 0, 94, .inl gk_4)), (g23, .inl (T 1, 3001, .inr (.inl fs))), (g24, .inl (T 0, 8192, .inl fz39))] H locs := V _ [0, 0] rfl rfl rfl (by decide +kernel) rfl
                    show W p l e _ s m args below meth c H locs _ _ _ (F0 m 89 ls [.int (nI 1), .int (nI (64 + k66)), .ref g1])
                    refine lv_if_eq (tgt := 104) hx hb dX8_soonest_89 (by decide) (fun c => absurd (show (nI 1) = 0 from c) (by decide +kernel)) (fun _ => ?_)
                    refine lv_aload_n hx hb dX8_soonest_92 rfl (lv_at hl 1 rfl) ?_
                    refine g_get hC V (ci := 8) uwX8 0 rfl rfl 1 (by decide) w_913 rfl rfl dX8_soonest_93 ?_
                    refine lv_bipush (v := (nI 54)) hx hb dX8_soonest_96 (by decide +kernel) ?_
                    refine lv_iload_n hx hb dX8_soonest_98 rfl (lv_at hl 0 rfl) ?_
                    refine lv_iadd hx hb dX8_soonest_99 ?_
                    refine g_vi (y := (nI (54 + k66))) (nI_add _ _) ?_
                    obtain ⟨j_56, hj_56, ej_56⟩ := bd_ex (mi_need hf66.1 (i := k66) (by omega))
                    refine g_iald hC V 1 rfl (vp_in_nI (by omega) (by omega)) (v := (nI j_56)) (by rw [nI_clamp (by omega)]; exact ej_56) dX8_soonest_100 ?_
                    refine lv_goto (tgt := 113) hx hb dX8_soonest_101 (by decide) ?_
                    obtain ⟨f_57, ef_57⟩ : ∃ x, x = upd f66 (64 + k66) (nI j_56) := ⟨_, rfl⟩
                    have hf_57 : MS n fa f_57 := by rw [ef_57]; exact ms_st (by assumption) (by omega) (by omega) (by intros; first | (exfalso; omega) | exact bd_nI (by omega) | exact bd_le ‹bd (nI j_56) _› (by omega) | assumption) (by intros; first | (exfalso; omega) | exact bd_nI (by omega) | exact bd_le ‹bd (nI j_56) _› (by omega) | assumption) (by intros; first | (exfalso; omega) | exact bd_nI (by omega) | exact bd_le ‹bd (nI j_56) _› (by omega) | assumption) (by intros; first | (exfalso; omega) | exact bd_nI (by omega) | exact bd_le ‹bd (nI j_56) _› (by omega) | assumption) (by intros; first | (exfalso; omega) | exact bd_nI (by omega) | exact bd_le ‹bd (nI j_56) _› (by omega) | assumption) (by intros; first | (exfalso; omega) | exact bd_nI (by omega) | exact bd_le ‹bd (nI j_56) _› (by omega) | assumption) (by intros; first | (exfalso; omega) | exact bd_nI (by omega) | exact bd_le ‹bd (nI j_56) _› (by omega) | assumption)
                    refine g_iast hC V 1 rfl (vp_in_nI (by omega) (by omega)) (f' := f_57) (by rw [nI_clamp (by omega)]; exact ef_57.symm) (ws' := [(o, .inr (8, [.int (nI 0), .ref g1, .ref g2, .ref g3, .ref g4, .int (nI tp), .int w6, .int w7, .int w8, .int w9, .int w10, .int w11, .int w12, .int w13, .int w14, .ref g15, .int w16, .ref g17, .int w18, .int w19, .ref g20, .int w21, .ref g22, .ref g23, .ref g24, .int (nI 0), .int w26, .int w27, .ref g28, .ref g29, .int w30, .ref g31, .ref g32, .ref g33])), (g1, .inl (T 0, 282, .inl f_57)), (g15, .inl (T 0, 10, .inl fh)), (g17, .inl (T 0, 94, .inl gk_4)), (g23, .inl (T 1, 3001, .inr (.inl fs))), (g24, .inl (T 0, 8192, .inl fz39))]) rfl dX8_soonest_113 (fun H locs V => ?_)
                    refine lv_iinc (v := (nI (k66 + 1))) (lv' := [(1, .int (nI (k66 + 1))), (0, .ref o)]) hx hb dX8_soonest_114 hl (k := 0) rfl (nI_1 _) (by decide) rfl (fun ls hl => ?_)
                    refine lv_goto (tgt := 66) hx hb dX8_soonest_117 (by decide) ?_
                    exact ih_66 (k66 + 1) f_57 (by omega) (by assumption) (by omega) _ _ _ V (lv_sub hl [0, 1] rfl)
                  · have V : gW D T A s [(o, .inr (8, [.int (nI 0), .ref g1, .ref g2, .ref g3, .ref g4, .int (nI tp), .int w6, .int w7, .int w8, .int w9, .int w10, .int w11, .int w12, .int w13, .int w14, .ref g15, .int w16, .ref g17, .int w18, .int w19, .ref g20, .int w21, .ref g22, .ref g23, .ref g24, .int (nI 0), .int w26, .int w27, .ref g28, .ref g29, .int w30, .ref g31, .ref g32, .ref g33])), (g1, .inl (T 0, 282, .inl f66)), (g15, .inl (T 0, 10, .inl fh)), (g17, .inl (T 0, 94, .inl gk_4)), (g23, .inl (T 1, 3001, .inr (.inl fs))), (g24, .inl (T 0, 8192, .inl fz39))] H locs := V _ [0, 0] rfl rfl rfl (by decide +kernel) rfl
                    show W p l e _ s m args below meth c H locs _ _ _ (F0 m 89 ls [.int (nI 0), .int (nI (64 + k66)), .ref g1])
                    refine lv_if_eq (tgt := 104) hx hb dX8_soonest_89 (by decide) (fun _ => ?_) (fun c => absurd (show (nI 0) = 0 by decide +kernel) c)
                    refine lv_aload_n hx hb dX8_soonest_104 rfl (lv_at hl 1 rfl) ?_
                    refine g_get hC V (ci := 8) uwX8 0 rfl rfl 1 (by decide) w_913 rfl rfl dX8_soonest_105 ?_
                    refine lv_bipush (v := (nI 64)) hx hb dX8_soonest_108 (by decide +kernel) ?_
                    refine lv_iload_n hx hb dX8_soonest_110 rfl (lv_at hl 0 rfl) ?_
                    refine lv_iadd hx hb dX8_soonest_111 ?_
                    refine g_vi (y := (nI (64 + k66))) (nI_add _ _) ?_
                    obtain ⟨j_58, hj_58, ej_58⟩ := bd_ex (mi_has hf66.1 (i := k66) (by omega))
                    refine g_iald hC V 1 rfl (vp_in_nI (by omega) (by omega)) (v := (nI j_58)) (by rw [nI_clamp (by omega)]; exact ej_58) dX8_soonest_112 ?_
                    obtain ⟨f_59, ef_59⟩ : ∃ x, x = upd f66 (64 + k66) (nI j_58) := ⟨_, rfl⟩
                    have hf_59 : MS n fa f_59 := by rw [ef_59]; exact ms_st (by assumption) (by omega) (by omega) (by intros; first | (exfalso; omega) | exact bd_nI (by omega) | exact bd_le ‹bd (nI j_58) _› (by omega) | assumption) (by intros; first | (exfalso; omega) | exact bd_nI (by omega) | exact bd_le ‹bd (nI j_58) _› (by omega) | assumption) (by intros; first | (exfalso; omega) | exact bd_nI (by omega) | exact bd_le ‹bd (nI j_58) _› (by omega) | assumption) (by intros; first | (exfalso; omega) | exact bd_nI (by omega) | exact bd_le ‹bd (nI j_58) _› (by omega) | assumption) (by intros; first | (exfalso; omega) | exact bd_nI (by omega) | exact bd_le ‹bd (nI j_58) _› (by omega) | assumption) (by intros; first | (exfalso; omega) | exact bd_nI (by omega) | exact bd_le ‹bd (nI j_58) _› (by omega) | assumption) (by intros; first | (exfalso; omega) | exact bd_nI (by omega) | exact bd_le ‹bd (nI j_58) _› (by omega) | assumption)
                    refine g_iast hC V 1 rfl (vp_in_nI (by omega) (by omega)) (f' := f_59) (by rw [nI_clamp (by omega)]; exact ef_59.symm) (ws' := [(o, .inr (8, [.int (nI 0), .ref g1, .ref g2, .ref g3, .ref g4, .int (nI tp), .int w6, .int w7, .int w8, .int w9, .int w10, .int w11, .int w12, .int w13, .int w14, .ref g15, .int w16, .ref g17, .int w18, .int w19, .ref g20, .int w21, .ref g22, .ref g23, .ref g24, .int (nI 0), .int w26, .int w27, .ref g28, .ref g29, .int w30, .ref g31, .ref g32, .ref g33])), (g1, .inl (T 0, 282, .inl f_59)), (g15, .inl (T 0, 10, .inl fh)), (g17, .inl (T 0, 94, .inl gk_4)), (g23, .inl (T 1, 3001, .inr (.inl fs))), (g24, .inl (T 0, 8192, .inl fz39))]) rfl dX8_soonest_113 (fun H locs V => ?_)
                    refine lv_iinc (v := (nI (k66 + 1))) (lv' := [(1, .int (nI (k66 + 1))), (0, .ref o)]) hx hb dX8_soonest_114 hl (k := 0) rfl (nI_1 _) (by decide) rfl (fun ls hl => ?_)
                    refine lv_goto (tgt := 66) hx hb dX8_soonest_117 (by decide) ?_
                    exact ih_66 (k66 + 1) f_59 (by omega) (by assumption) (by omega) _ _ _ V (lv_sub hl [0, 1] rfl)
            exact L_8 _ 0 fa (by omega) (by assumption) (Nat.lt_succ_self _) _ _ _ V (lv_sub hl [0, 1] rfl)
          · skip
            have c_7 := b_nle (by omega) (by omega) c_7
            refine lv_aload_n hx hb dX8_soonest_46 rfl (lv_at hl 1 rfl) ?_
            refine g_get hC V (ci := 8) uwX8 0 rfl rfl 24 (by decide) w_936 rfl rfl dX8_soonest_47 ?_
            refine lv_iload_n hx hb dX8_soonest_50 rfl (lv_at hl 0 rfl) ?_
            refine lv_iconst (v := (nI 0)) hx hb dX8_soonest_51 (by decide +kernel) ?_
            refine g_iast hC V 5 rfl (vp_in_nI (by omega) (by omega)) (f' := (upd fz39 k39 (nI 0))) (by rw [nI_clamp (by omega)]) (ws' := [(o, .inr (8, [.int (nI 0), .ref g1, .ref g2, .ref g3, .ref g4, .int (nI tp), .int w6, .int w7, .int w8, .int w9, .int w10, .int w11, .int w12, .int w13, .int w14, .ref g15, .int w16, .ref g17, .int w18, .int w19, .ref g20, .int w21, .ref g22, .ref g23, .ref g24, .int w25, .int w26, .int w27, .ref g28, .ref g29, .int w30, .ref g31, .ref g32, .ref g33])), (g1, .inl (T 0, 282, .inl fa)), (g15, .inl (T 0, 10, .inl fh)), (g17, .inl (T 0, 94, .inl gk_4)), (g23, .inl (T 1, 3001, .inr (.inl fs))), (g24, .inl (T 0, 8192, .inl (upd fz39 k39 (nI 0))))]) rfl dX8_soonest_52 (fun H locs V => ?_)
            refine lv_iinc (v := (nI (k39 + 1))) (lv' := [(1, .int (nI (k39 + 1))), (0, .ref o)]) hx hb dX8_soonest_53 hl (k := 0) rfl (nI_1 _) (by decide) rfl (fun ls hl => ?_)
            refine lv_goto (tgt := 39) hx hb dX8_soonest_56 (by decide) ?_
            exact ih_39 (k39 + 1) (upd fz39 k39 (nI 0)) (by omega) (up_one (p := fun _ y => y = nI 0) hfz rfl) (by omega) _ _ _ V (lv_sub hl [0, 1] rfl)
      exact L_6 _ 0 fc (by omega) (fun i h => absurd h (Nat.not_lt_zero _)) (Nat.lt_succ_self _) _ _ _ V (lv_sub hl [0, 1] rfl)
    · skip
      refine lv_iconst (v := (nI 0)) hx hb dX8_soonest_31 (by decide +kernel) ?_
      exact g_iret (Qr := (q_m_soonest T n o w0 g1 g2 g3 g4 tp w6 w7 w8 w9 w10 w11 w12 w13 w14 g15 w16 g17 w18 w19 g20 w21 g22 g23 g24 w25 w26 w27 g28 g29 w30 g31 g32 g33 fa fh fk fs fc)) hC V ⟨(Nat.le_of_ble_eq_true rfl), (Nat.le_of_ble_eq_true rfl)⟩ ⟨(nI 0), w25, w16, fh, fk, fs, fc, rfl, rfl⟩ dX8_soonest_32
  · skip
    have c_1 := b_nle (by omega) (by omega) c_1
    refine lv_bipush (v := (-4)) hx hb dX8_soonest_15 (by decide +kernel) ?_
    exact g_iret (Qr := (q_m_soonest T n o w0 g1 g2 g3 g4 tp w6 w7 w8 w9 w10 w11 w12 w13 w14 g15 w16 g17 w18 w19 g20 w21 g22 g23 g24 w25 w26 w27 g28 g29 w30 g31 g32 g33 fa fh fk fs fc)) hC V ⟨(Nat.le_of_ble_eq_true rfl), (Nat.le_of_ble_eq_true rfl)⟩ ⟨(-4), w25, w16, fh, fk, fs, fc, rfl, rfl⟩ dX8_soonest_17
