def q_fillJ (T : Nat → ClassId) (a : Nat) (x : Int64) (f0 : Nat → Int64) : Option Value → va_W → Prop := fun rr ww => (∃ (g : Nat → Int64), rr = none ∧ ww = [(a, .inl (T 1, 40, .inr (.inl g)))] ∧ (∀ i, i < 40 → g i = x))
set_option maxHeartbeats 4000000 in
set_option maxRecDepth 100000 in
theorem c_fillJ (l : Launch) (D : va_G) (T : Nat → ClassId) (a : Nat) (x : Int64) (f0 : Nat → Int64) : Ct l yJ7_fill_d0a16 cJ7_fill_d0a16 5 none 0 0 0 D T [.ref a, .long x] [(a, .inl (T 1, 40, .inr (.inl f0)))] (q_fillJ T a x f0) := by
  refine Ct.of (cc := cJ7_fill_d0a16) (maxL := 5) (ret := none) (by decide) (Nat.le_of_ble_eq_true rfl) ?_
  intro p e s m args below meth c A ls hC hnm V hl
  obtain ⟨hx, hb, hr, hml, hown, hts, hlocks⟩ := id hC
  generalize hH : s.heap = H at V ⊢
  clear hH
  have hl : lv_has ls 5 [(0, .ref a), (1, .long x)] := hl
  generalize hlo : ([] : List Loc) = locs at V ⊢
  clear hlo
  refine lv_iconst (v := (nI 0)) hx hb dJ7_fill_d0a16_0 (by decide +kernel) ?_
  refine lv_istore_n (lv' := [(3, .int (nI 0)), (0, .ref a), (1, .long x)]) hx hb dJ7_fill_d0a16_1 rfl hl (by decide) rfl (fun ls hl => ?_)
  refine lv_aload_n hx hb dJ7_fill_d0a16_2 rfl (lv_at hl 1 rfl) ?_
  refine g_alen hC V 0 1 rfl rfl dJ7_fill_d0a16_3 ?_
  refine lv_istore (lv' := [(4, .int (nI 40)), (3, .int (nI 0)), (0, .ref a), (1, .long x)]) hx hb dJ7_fill_d0a16_4 hl (by decide) rfl (fun ls hl => ?_)
  have L_1 : ∀ (fu : Nat) (k : Nat) (f : Nat → Int64), k ≤ 40 → (∀ i, i < k → f i = x) → 40 - k < fu → ∀ (H : Heap) (locs : List Loc) (ls : Array Slot), gW D T A s [(a, .inl (T 1, 40, .inr (.inl f)))] H locs → lv_has ls 5 [(4, .int (nI 40)), (3, .int (nI k)), (0, .ref a), (1, .long x)] → W p l e (rmD 0 0 0) s m args below meth c H locs 0 0 (MQ below (gQ D A (q_fillJ T a x f0)) args s 0 0 A) (F0 m 6 ls []) := by
    intro fu_6
    induction fu_6 with
    | zero => intro k f hk hf hmu; exact absurd hmu (Nat.not_lt_zero _)
    | succ fu_6 ih_6 =>
      intro k f hk hf hmu_6 H locs ls V hl
      refine lv_iload_n hx hb dJ7_fill_d0a16_6 rfl (lv_at hl 1 rfl) ?_
      refine lv_iload hx hb dJ7_fill_d0a16_7 (lv_at hl 0 rfl) ?_
      refine lv_icmp_ge (tgt := 22) hx hb dJ7_fill_d0a16_9 (by decide) (fun c_2 => ?_) (fun c_2 => ?_)
      · skip
        have c_2 := b_le (by omega) (by omega) c_2
        exact g_vret (Qr := (q_fillJ T a x f0)) hC V ⟨(Nat.le_of_ble_eq_true rfl), (Nat.le_of_ble_eq_true rfl)⟩ ⟨f, rfl, rfl, (fun i h => hf i (by omega))⟩ dJ7_fill_d0a16_22
      · skip
        have c_2 := b_nle (by omega) (by omega) c_2
        refine lv_aload_n hx hb dJ7_fill_d0a16_12 rfl (lv_at hl 2 rfl) ?_
        refine lv_iload_n hx hb dJ7_fill_d0a16_13 rfl (lv_at hl 1 rfl) ?_
        refine lv_lload_n hx hb dJ7_fill_d0a16_14 rfl (lv_at hl 3 rfl) ?_
        refine g_last hC V 0 rfl (vp_in_nI (by omega) (by omega)) (f' := (vp_updL f k x)) (by rw [nI_clamp (by omega)]) (ws' := [(a, .inl (T 1, 40, .inr (.inl (vp_updL f k x))))]) rfl dJ7_fill_d0a16_15 (fun H locs V => ?_)
        refine lv_iinc (v := (nI (k + 1))) (lv' := [(3, .int (nI (k + 1))), (4, .int (nI 40)), (0, .ref a), (1, .long x)]) hx hb dJ7_fill_d0a16_16 hl (k := 1) rfl (nI_1 _) (by decide) rfl (fun ls hl => ?_)
        refine lv_goto (tgt := 6) hx hb dJ7_fill_d0a16_19 (by decide) ?_
        exact ih_6 (k + 1) (vp_updL f k x) (by omega) (upL_one (p := fun i y => y = x) hf rfl) (by omega) _ _ _ V (lv_sub hl [1, 0, 2, 3] rfl)
  exact L_1 _ 0 f0 (by omega) (fun i h => absurd h (Nat.not_lt_zero _)) (Nat.lt_succ_self _) _ _ _ V (lv_sub hl [0, 1, 2, 3] rfl)

def q_r_begin (T : Nat → ClassId) (r0 : Nat) (st : Nat) (sz : Nat) (rh : Int32) (rz : Int32) (r1 : Nat) (rs : Int32) (rf : Nat → Int64) : Option Value → va_W → Prop := fun rr ww => (∃ (g : Nat → Int64), rr = none ∧ ww = [(r0, .inr (1, [.int (nI 1), .int (nI sz), .ref r1, .int (nI st)])), (r1, .inl (T 1, 40, .inr (.inl g)))] ∧ (∀ i, i < 40 → g i = 0))
set_option maxHeartbeats 4000000 in
set_option maxRecDepth 100000 in
theorem r_begin (l : Launch) (D : va_G) (T : Nat → ClassId) (r0 : Nat) (st : Nat) (sz : Nat) (rh : Int32) (rz : Int32) (r1 : Nat) (rs : Int32) (rf : Nat → Int64) : Ct l yX1_begin cX1_begin 3 none 1 0 0 D T [.ref r0, .int (nI st), .int (nI sz)] [(r0, .inr (1, [.int rh, .int rz, .ref r1, .int rs])), (r1, .inl (T 1, 40, .inr (.inl rf)))] (q_r_begin T r0 st sz rh rz r1 rs rf) := by
  refine Ct.of (cc := cX1_begin) (maxL := 3) (ret := none) (by decide) (Nat.le_of_ble_eq_true rfl) ?_
  intro p e s m args below meth c A ls hC hnm V hl
  obtain ⟨hx, hb, hr, hml, hown, hts, hlocks⟩ := id hC
  generalize hH : s.heap = H at V ⊢
  clear hH
  have hl : lv_has ls 3 [(0, .ref r0), (1, .int (nI st)), (2, .int (nI sz))] := hl
  generalize hlo : ([] : List Loc) = locs at V ⊢
  clear hlo
  refine lv_aload_n hx hb dX1_begin_0 rfl (lv_at hl 0 rfl) ?_
  refine lv_iconst (v := (nI 1)) hx hb dX1_begin_1 (by decide +kernel) ?_
  refine g_put hC V (ci := 1) uwX1 tyX1 tyX1_ok nmX1 0 rfl rfl 0 (by decide) w_228 rfl rfl (by decide +kernel) rfl (Nat.le_of_ble_eq_true rfl) (ws' := [(r0, .inr (1, [.int (nI 1), .int rz, .ref r1, .int rs])), (r1, .inl (T 1, 40, .inr (.inl rf)))]) rfl dX1_begin_2 (fun H locs V => ?_)
  refine lv_aload_n hx hb dX1_begin_5 rfl (lv_at hl 0 rfl) ?_
  refine lv_iload_n hx hb dX1_begin_6 rfl (lv_at hl 1 rfl) ?_
  refine g_put hC V (ci := 1) uwX1 tyX1 tyX1_ok nmX1 0 rfl rfl 3 (by decide) w_238 rfl rfl rfl rfl (Nat.le_of_ble_eq_true rfl) (ws' := [(r0, .inr (1, [.int (nI 1), .int rz, .ref r1, .int (nI st)])), (r1, .inl (T 1, 40, .inr (.inl rf)))]) rfl dX1_begin_7 (fun H locs V => ?_)
  refine lv_aload_n hx hb dX1_begin_10 rfl (lv_at hl 0 rfl) ?_
  refine lv_iload_n hx hb dX1_begin_11 rfl (lv_at hl 2 rfl) ?_
  refine g_put hC V (ci := 1) uwX1 tyX1 tyX1_ok nmX1 0 rfl rfl 1 (by decide) w_230 rfl rfl rfl rfl (Nat.le_of_ble_eq_true rfl) (ws' := [(r0, .inr (1, [.int (nI 1), .int (nI sz), .ref r1, .int (nI st)])), (r1, .inl (T 1, 40, .inr (.inl rf)))]) rfl dX1_begin_12 (fun H locs V => ?_)
  refine lv_aload_n hx hb dX1_begin_15 rfl (lv_at hl 0 rfl) ?_
  refine g_get hC V (ci := 1) uwX1 0 rfl rfl 2 (by decide) w_233 rfl rfl dX1_begin_16 ?_
  refine lv_lconst (v := 0) hx hb dX1_begin_19 (by decide +kernel) ?_
  refine g_callSU (nA := 2) hC V hl.1 (c_fillJ l D T r1 0 rf) w_863 w_864 w_11 w_865 (by decide +kernel) rfl ⟨(Nat.le_of_ble_eq_true rfl), (Nat.le_of_ble_eq_true rfl)⟩ [1] rfl rfl (Nat.le_of_ble_eq_true rfl) dX1_begin_20 ⟨(Nat.le_of_ble_eq_true rfl), (Nat.le_of_ble_eq_true rfl)⟩ rfl (fun r w1 H locs hQ V => ?_)
  obtain ⟨g_1, rfl, rfl, f_2⟩ := hQ
  have V : gW D T A s [(r0, .inr (1, [.int (nI 1), .int (nI sz), .ref r1, .int (nI st)])), (r1, .inl (T 1, 40, .inr (.inl g_1)))] H locs := V _ [1] rfl rfl rfl (by decide +kernel) rfl
  show W p l e _ s m args below meth c H locs _ _ _ (F0 m 23 ls [])
  exact g_vret (Qr := (q_r_begin T r0 st sz rh rz r1 rs rf)) hC V ⟨(Nat.le_of_ble_eq_true rfl), (Nat.le_of_ble_eq_true rfl)⟩ ⟨g_1, rfl, rfl, (by first | assumption | omega)⟩ dX1_begin_23

theorem cut0 {s : Nat} {v : Int64} (hs : s < 2147483648) (h : nI s = nI 0) : v.toInt32.toInt8.toInt32.toInt64 = cutv s v := by obtain rfl := b_eq hs (by decide) h; rfl
theorem cut1 {s : Nat} {v : Int64} (hs : s < 2147483648) (h : nI s = nI 1) : v.toInt32.toInt16.toInt32.toInt64 = cutv s v := by obtain rfl := b_eq hs (by decide) h; rfl
theorem cut2 {s : Nat} {v : Int64} (hs : s < 2147483648) (h : nI s = nI 2) : v.toInt32.toInt64 = cutv s v := by obtain rfl := b_eq hs (by decide) h; rfl
theorem cut3 {s : Nat} {v : Int64} (h0 : ¬ nI s = nI 0) (h1 : ¬ nI s = nI 1) (h2 : ¬ nI s = nI 2) : v = cutv s v := by
  have a0 : s ≠ 0 := fun e => h0 (by rw [e])
  have a1 : s ≠ 1 := fun e => h1 (by rw [e])
  have a2 : s ≠ 2 := fun e => h2 (by rw [e])
  simp [cutv, a0, a1, a2]

def q_r_cut (T : Nat → ClassId) (r0 : Nat) (v : Int64) (rh : Int32) (rz : Nat) (r1 : Nat) (rs : Nat) : Option Value → va_W → Prop := fun rr ww => (∃ (z : Int64), rr = some (.long z) ∧ ww = [(r0, .inr (1, [.int rh, .int (nI rz), .ref r1, .int (nI rs)]))] ∧ z = cutv rs v)
set_option maxHeartbeats 4000000 in
set_option maxRecDepth 100000 in
theorem r_cut (l : Launch) (D : va_G) (T : Nat → ClassId) (r0 : Nat) (v : Int64) (rh : Int32) (rz : Nat) (r1 : Nat) (rs : Nat) (h_s : rs ≤ 3) : Ct l yX1_cut cX1_cut 3 (some .long) 0 0 0 D T [.ref r0, .long v] [(r0, .inr (1, [.int rh, .int (nI rz), .ref r1, .int (nI rs)]))] (q_r_cut T r0 v rh rz r1 rs) := by
  refine Ct.of (cc := cX1_cut) (maxL := 3) (ret := (some .long)) (by decide) (Nat.le_of_ble_eq_true rfl) ?_
  intro p e s m args below meth c A ls hC hnm V hl
  obtain ⟨hx, hb, hr, hml, hown, hts, hlocks⟩ := id hC
  generalize hH : s.heap = H at V ⊢
  clear hH
  have hl : lv_has ls 3 [(0, .ref r0), (1, .long v)] := hl
  generalize hlo : ([] : List Loc) = locs at V ⊢
  clear hlo
  refine lv_aload_n hx hb dX1_cut_0 rfl (lv_at hl 0 rfl) ?_
  refine g_get hC V (ci := 1) uwX1 0 rfl rfl 3 (by decide) w_238 rfl rfl dX1_cut_1 ?_
  by_cases c_10 : (nI rs) = (nI 0)
  · skip
    refine lv_tableIn (tgt := 32) (off := 28) hx hb dX1_cut_4 (by first | decide +kernel | (rw [c_10]; decide +kernel)) (by first | decide +kernel | (rw [c_10]; decide +kernel)) (by first | decide +kernel | (rw [c_10]; decide +kernel)) (by decide) ?_
    refine lv_lload_n hx hb dX1_cut_32 rfl (lv_at hl 1 rfl) ?_
    refine lv_l2i hx hb dX1_cut_33 rfl ?_
    refine lv_i2b hx hb dX1_cut_34 rfl ?_
    refine lv_i2l (v := ((v.toInt32).toInt8.toInt32).toInt64) hx hb dX1_cut_35 rfl ?_
    exact g_lret (Qr := (q_r_cut T r0 v rh rz r1 rs)) hC V ⟨(Nat.le_of_ble_eq_true rfl), (Nat.le_of_ble_eq_true rfl)⟩ ⟨(((v.toInt32).toInt8.toInt32).toInt64), rfl, rfl, (cut0 (by omega) (by assumption))⟩ dX1_cut_36
  by_cases c_11 : (nI rs) = (nI 1)
  · skip
    refine lv_tableIn (tgt := 37) (off := 33) hx hb dX1_cut_4 (by first | decide +kernel | (rw [c_11]; decide +kernel)) (by first | decide +kernel | (rw [c_11]; decide +kernel)) (by first | decide +kernel | (rw [c_11]; decide +kernel)) (by decide) ?_
    refine lv_lload_n hx hb dX1_cut_37 rfl (lv_at hl 1 rfl) ?_
    refine lv_l2i hx hb dX1_cut_38 rfl ?_
    refine lv_i2s hx hb dX1_cut_39 rfl ?_
    refine lv_i2l (v := ((v.toInt32).toInt16.toInt32).toInt64) hx hb dX1_cut_40 rfl ?_
    exact g_lret (Qr := (q_r_cut T r0 v rh rz r1 rs)) hC V ⟨(Nat.le_of_ble_eq_true rfl), (Nat.le_of_ble_eq_true rfl)⟩ ⟨(((v.toInt32).toInt16.toInt32).toInt64), rfl, rfl, (cut1 (by omega) (by assumption))⟩ dX1_cut_41
  by_cases c_12 : (nI rs) = (nI 2)
  · skip
    refine lv_tableIn (tgt := 42) (off := 38) hx hb dX1_cut_4 (by first | decide +kernel | (rw [c_12]; decide +kernel)) (by first | decide +kernel | (rw [c_12]; decide +kernel)) (by first | decide +kernel | (rw [c_12]; decide +kernel)) (by decide) ?_
    refine lv_lload_n hx hb dX1_cut_42 rfl (lv_at hl 1 rfl) ?_
    refine lv_l2i hx hb dX1_cut_43 rfl ?_
    refine lv_i2l (v := v.toInt32.toInt64) hx hb dX1_cut_44 rfl ?_
    exact g_lret (Qr := (q_r_cut T r0 v rh rz r1 rs)) hC V ⟨(Nat.le_of_ble_eq_true rfl), (Nat.le_of_ble_eq_true rfl)⟩ ⟨v.toInt32.toInt64, rfl, rfl, (cut2 (by omega) (by assumption))⟩ dX1_cut_45
  refine lv_tableOut (tgt := 46) hx hb dX1_cut_4 (g_out 0 2 (fun k h1 h2 => ?_)) (by decide) ?_
  · intro h
    have h3 : k = 0 ∨ k = 1 ∨ k = 2 := by omega
    rcases h3 with rfl | rfl | rfl
    · exact c_10 (g_out2 h (by decide +kernel))
    · exact c_11 (g_out2 h (by decide +kernel))
    · exact c_12 (g_out2 h (by decide +kernel))
  refine lv_lload_n hx hb dX1_cut_46 rfl (lv_at hl 1 rfl) ?_
  exact g_lret (Qr := (q_r_cut T r0 v rh rz r1 rs)) hC V ⟨(Nat.le_of_ble_eq_true rfl), (Nat.le_of_ble_eq_true rfl)⟩ ⟨v, rfl, rfl, (cut3 (by assumption) (by assumption) (by assumption))⟩ dX1_cut_47

def q_r_put (T : Nat → ClassId) (r0 : Nat) (i : Nat) (v : Int64) (rh : Int32) (rz : Nat) (r1 : Nat) (rs : Nat) (rf : Nat → Int64) : Option Value → va_W → Prop := fun rr ww => (rr = none ∧ ww = [(r0, .inr (1, [.int rh, .int (nI rz), .ref r1, .int (nI rs)])), (r1, .inl (T 1, 40, .inr (.inl (vp_updL rf i (cutv rs v)))))])
set_option maxHeartbeats 4000000 in
set_option maxRecDepth 100000 in
theorem r_put (l : Launch) (D : va_G) (T : Nat → ClassId) (r0 : Nat) (i : Nat) (v : Int64) (rh : Int32) (rz : Nat) (r1 : Nat) (rs : Nat) (rf : Nat → Int64) (h_s : rs ≤ 3) (h_i : i < 40) : Ct l yX1_put cX1_put 4 none 1 0 0 D T [.ref r0, .int (nI i), .long v] [(r0, .inr (1, [.int rh, .int (nI rz), .ref r1, .int (nI rs)])), (r1, .inl (T 1, 40, .inr (.inl rf)))] (q_r_put T r0 i v rh rz r1 rs rf) := by
  refine Ct.of (cc := cX1_put) (maxL := 4) (ret := none) (by decide) (Nat.le_of_ble_eq_true rfl) ?_
  intro p e s m args below meth c A ls hC hnm V hl
  obtain ⟨hx, hb, hr, hml, hown, hts, hlocks⟩ := id hC
  generalize hH : s.heap = H at V ⊢
  clear hH
  have hl : lv_has ls 4 [(0, .ref r0), (1, .int (nI i)), (2, .long v)] := hl
  generalize hlo : ([] : List Loc) = locs at V ⊢
  clear hlo
  refine lv_aload_n hx hb dX1_put_0 rfl (lv_at hl 0 rfl) ?_
  refine g_get hC V (ci := 1) uwX1 0 rfl rfl 2 (by decide) w_233 rfl rfl dX1_put_1 ?_
  refine lv_iload_n hx hb dX1_put_4 rfl (lv_at hl 1 rfl) ?_
  refine lv_aload_n hx hb dX1_put_5 rfl (lv_at hl 0 rfl) ?_
  refine lv_lload_n hx hb dX1_put_6 rfl (lv_at hl 2 rfl) ?_
  refine g_callVU (nA := 1) hC V hl.1 (r_cut l D T r0 v rh rz r1 rs (by first | assumption | omega)) w_875 w_877 w_s35 w_8 w_878 (by decide +kernel) rfl ⟨(Nat.le_of_ble_eq_true rfl), (Nat.le_of_ble_eq_true rfl)⟩ 0 (ci := 1) rfl rfl [0] rfl rfl (Nat.le_of_ble_eq_true rfl) dX1_put_7 ⟨(Nat.le_of_ble_eq_true rfl), (Nat.le_of_ble_eq_true rfl)⟩ rfl (fun r w1 H locs hQ V => ?_)
  obtain ⟨z_1, rfl, rfl, f_2⟩ := hQ
  have V : gW D T A s [(r0, .inr (1, [.int rh, .int (nI rz), .ref r1, .int (nI rs)])), (r1, .inl (T 1, 40, .inr (.inl rf)))] H locs := V _ [0] rfl rfl rfl (by decide +kernel) rfl
  show W p l e _ s m args below meth c H locs _ _ _ (F0 m 10 ls [.long z_1, .int (nI i), .ref r1])
  refine g_last hC V 1 rfl (vp_in_nI (by omega) (by omega)) (f' := (vp_updL rf i (cutv rs v))) (by rw [nI_clamp (by omega), show z_1 = cutv rs v by assumption]) (ws' := [(r0, .inr (1, [.int rh, .int (nI rz), .ref r1, .int (nI rs)])), (r1, .inl (T 1, 40, .inr (.inl (vp_updL rf i (cutv rs v)))))]) rfl dX1_put_10 (fun H locs V => ?_)
  exact g_vret (Qr := (q_r_put T r0 i v rh rz r1 rs rf)) hC V ⟨(Nat.le_of_ble_eq_true rfl), (Nat.le_of_ble_eq_true rfl)⟩ ⟨rfl, rfl⟩ dX1_put_11
