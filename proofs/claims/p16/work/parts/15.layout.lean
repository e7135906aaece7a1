def q_y_closes (T : Nat → ClassId) (y0 : Nat) (a0 : Nat) (sm : Nat) (fi : Nat) (ys : Int32) (y1 : Nat) (y2 : Nat) (yt : Nat → Int32) (an : Nat) (am : Int32) (al : Int32) (ao : Int32) (au : Int32) (a1 : Nat) (a2 : Nat) (a3 : Nat) (a4 : Nat) (a5 : Nat) (a6 : Nat) (a7 : Nat) (a8 : Nat) (a9 : Nat) (a10 : Nat) : Option Value → va_W → Prop := fun rr ww => (rr = some (.int (nI 1)) ∧ ww = [(y0, .inr (0, [.int ys, .ref y1, .ref y2])), (y2, .inl (T 0, 7, .inl yt)), (a0, .inr (5, [.int (nI an), .int am, .int al, .int ao, .int au, .ref a1, .ref a2, .ref a3, .ref a4, .ref a5, .ref a6, .ref a7, .ref a8, .ref a9, .ref a10]))]) ∨ (rr = some (.int (nI 0)) ∧ ww = [(y0, .inr (0, [.int ys, .ref y1, .ref y2])), (y2, .inl (T 0, 7, .inl yt)), (a0, .inr (5, [.int (nI an), .int am, .int al, .int ao, .int au, .ref a1, .ref a2, .ref a3, .ref a4, .ref a5, .ref a6, .ref a7, .ref a8, .ref a9, .ref a10]))])
set_option maxHeartbeats 4000000 in
set_option maxRecDepth 100000 in
theorem y_closes (l : Launch) (D : va_G) (T : Nat → ClassId) (y0 : Nat) (a0 : Nat) (sm : Nat) (fi : Nat) (ys : Int32) (y1 : Nat) (y2 : Nat) (yt : Nat → Int32) (an : Nat) (am : Int32) (al : Int32) (ao : Int32) (au : Int32) (a1 : Nat) (a2 : Nat) (a3 : Nat) (a4 : Nat) (a5 : Nat) (a6 : Nat) (a7 : Nat) (a8 : Nat) (a9 : Nat) (a10 : Nat) (h_n : an ≤ 7) (h_yt : ∀ i, i < 7 → (yt i = -1 ∨ bd (yt i) 7)) (h_fi : fi < 7) (h_sm : sm < 7) : Ct l yX0_closesTooSoon cX0_closesTooSoon 6 (some .boolean) 0 0 0 D T [.ref y0, .ref a0, .int (nI sm), .int (nI fi)] [(y0, .inr (0, [.int ys, .ref y1, .ref y2])), (y2, .inl (T 0, 7, .inl yt)), (a0, .inr (5, [.int (nI an), .int am, .int al, .int ao, .int au, .ref a1, .ref a2, .ref a3, .ref a4, .ref a5, .ref a6, .ref a7, .ref a8, .ref a9, .ref a10]))] (q_y_closes T y0 a0 sm fi ys y1 y2 yt an am al ao au a1 a2 a3 a4 a5 a6 a7 a8 a9 a10) := by
  refine Ct.of (cc := cX0_closesTooSoon) (maxL := 6) (ret := (some .boolean)) (by decide) (Nat.le_of_ble_eq_true rfl) ?_
  intro p e s m args below meth c A ls hC hnm V hl
  obtain ⟨hx, hb, hr, hml, hown, hts, hlocks⟩ := id hC
  generalize hH : s.heap = H at V ⊢
  clear hH
  have hl : lv_has ls 6 [(0, .ref y0), (1, .ref a0), (2, .int (nI sm)), (3, .int (nI fi))] := hl
  generalize hlo : ([] : List Loc) = locs at V ⊢
  clear hlo
  refine lv_iload_n hx hb dX0_closesTooSoon_0 rfl (lv_at hl 3 rfl) ?_
  refine lv_istore (lv' := [(4, .int (nI fi)), (0, .ref y0), (1, .ref a0), (2, .int (nI sm)), (3, .int (nI fi))]) hx hb dX0_closesTooSoon_1 hl (by decide) rfl (fun ls hl => ?_)
  refine lv_iconst (v := (nI 0)) hx hb dX0_closesTooSoon_3 (by decide +kernel) ?_
  refine lv_istore (lv' := [(5, .int (nI 0)), (4, .int (nI fi)), (0, .ref y0), (1, .ref a0), (2, .int (nI sm)), (3, .int (nI fi))]) hx hb dX0_closesTooSoon_4 hl (by decide) rfl (fun ls hl => ?_)
  have L_1 : ∀ (fu : Nat) (k6 : Nat) (at_ : Int32), k6 ≤ an → at_ = -1 ∨ bd at_ 7 → an - k6 < fu → ∀ (H : Heap) (locs : List Loc) (ls : Array Slot), gW D T A s [(y0, .inr (0, [.int ys, .ref y1, .ref y2])), (y2, .inl (T 0, 7, .inl yt)), (a0, .inr (5, [.int (nI an), .int am, .int al, .int ao, .int au, .ref a1, .ref a2, .ref a3, .ref a4, .ref a5, .ref a6, .ref a7, .ref a8, .ref a9, .ref a10]))] H locs → lv_has ls 6 [(5, .int (nI k6)), (4, .int at_), (0, .ref y0), (1, .ref a0), (2, .int (nI sm)), (3, .int (nI fi))] → W p l e (rmD 0 0 0) s m args below meth c H locs 0 0 (MQ below (gQ D A (q_y_closes T y0 a0 sm fi ys y1 y2 yt an am al ao au a1 a2 a3 a4 a5 a6 a7 a8 a9 a10)) args s 0 0 A) (F0 m 6 ls []) := by
    intro fu_6
    induction fu_6 with
    | zero => intro k6 at_ hk6 hat hmu; exact absurd hmu (Nat.not_lt_zero _)
    | succ fu_6 ih_6 =>
      intro k6 at_ hk6 hat hmu_6 H locs ls V hl
      refine lv_iload hx hb dX0_closesTooSoon_6 (lv_at hl 0 rfl) ?_
      refine lv_aload_n hx hb dX0_closesTooSoon_8 rfl (lv_at hl 3 rfl) ?_
      refine g_get hC V (ci := 5) uwX5 2 rfl rfl 0 (by decide) w_35 rfl rfl dX0_closesTooSoon_9 ?_
      refine lv_icmp_ge (tgt := 58) hx hb dX0_closesTooSoon_12 (by decide) (fun c_2 => ?_) (fun c_2 => ?_)
      · skip
        have c_2 := b_le (by omega) (by omega) c_2
        refine lv_iconst (v := (nI 0)) hx hb dX0_closesTooSoon_58 (by decide +kernel) ?_
        exact g_zret (Qr := (q_y_closes T y0 a0 sm fi ys y1 y2 yt an am al ao au a1 a2 a3 a4 a5 a6 a7 a8 a9 a10)) hC V ⟨(Nat.le_of_ble_eq_true rfl), (Nat.le_of_ble_eq_true rfl)⟩ (by first | decide +kernel | exact rfl) (.inr ⟨rfl, rfl⟩) dX0_closesTooSoon_59
      · skip
        have c_2 := b_nle (by omega) (by omega) c_2
        refine lv_iload hx hb dX0_closesTooSoon_15 (lv_at hl 1 rfl) ?_
        refine lv_iconst (v := (-1)) hx hb dX0_closesTooSoon_17 (by decide +kernel) ?_
        refine lv_icmp_eq (tgt := 58) hx hb dX0_closesTooSoon_18 (by decide) (fun c_3 => ?_) (fun c_3 => ?_)
        · skip
          refine lv_iconst (v := (nI 0)) hx hb dX0_closesTooSoon_58 (by decide +kernel) ?_
          exact g_zret (Qr := (q_y_closes T y0 a0 sm fi ys y1 y2 yt an am al ao au a1 a2 a3 a4 a5 a6 a7 a8 a9 a10)) hC V ⟨(Nat.le_of_ble_eq_true rfl), (Nat.le_of_ble_eq_true rfl)⟩ (by first | decide +kernel | exact rfl) (.inr ⟨rfl, rfl⟩) dX0_closesTooSoon_59
        · skip
          obtain ⟨ja, hja, rfl⟩ := hat.resolve_left c_3
          refine lv_iload hx hb dX0_closesTooSoon_21 (lv_at hl 1 rfl) ?_
          refine lv_iload_n hx hb dX0_closesTooSoon_23 rfl (lv_at hl 4 rfl) ?_
          refine lv_icmp_ne (tgt := 43) hx hb dX0_closesTooSoon_24 (by decide) (fun c_4 => ?_) (fun c_4 => ?_)
          · skip
            have c_4 := b_ne (by omega) (by omega) c_4
            refine lv_aload_n hx hb dX0_closesTooSoon_43 rfl (lv_at hl 2 rfl) ?_
            refine g_get hC V (ci := 0) uwX0 0 rfl rfl 2 (by decide) w_215 rfl rfl dX0_closesTooSoon_44 ?_
            refine lv_iload hx hb dX0_closesTooSoon_47 (lv_at hl 1 rfl) ?_
            refine g_iald hC V 1 rfl (vp_in_nI (by omega) (by omega)) (v := (yt ja)) (congrArg _ (nI_clamp (by omega))) dX0_closesTooSoon_49 ?_
            refine lv_istore (lv' := [(4, .int (yt ja)), (5, .int (nI k6)), (0, .ref y0), (1, .ref a0), (2, .int (nI sm)), (3, .int (nI fi))]) hx hb dX0_closesTooSoon_50 hl (by decide) rfl (fun ls hl => ?_)
            refine lv_iinc (v := (nI (k6 + 1))) (lv' := [(5, .int (nI (k6 + 1))), (4, .int (yt ja)), (0, .ref y0), (1, .ref a0), (2, .int (nI sm)), (3, .int (nI fi))]) hx hb dX0_closesTooSoon_52 hl (k := 1) rfl (nI_1 _) (by decide) rfl (fun ls hl => ?_)
            refine lv_goto (tgt := 6) hx hb dX0_closesTooSoon_55 (by decide) ?_
            exact ih_6 (k6 + 1) (yt ja) (by omega) (h_yt _ (by omega)) (by omega) _ _ _ V (lv_sub hl [0, 1, 2, 3, 4, 5] rfl)
          · skip
            have c_4 := b_eq (by omega) (by omega) c_4
            refine lv_iload_n hx hb dX0_closesTooSoon_27 rfl (lv_at hl 4 rfl) ?_
            refine lv_aload_n hx hb dX0_closesTooSoon_28 rfl (lv_at hl 3 rfl) ?_
            refine g_get hC V (ci := 5) uwX5 2 rfl rfl 0 (by decide) w_35 rfl rfl dX0_closesTooSoon_29 ?_
            refine lv_iconst (v := (nI 1)) hx hb dX0_closesTooSoon_32 (by decide +kernel) ?_
            refine lv_isub hx hb dX0_closesTooSoon_33 ?_
            refine lv_icmp_ge (tgt := 41) hx hb dX0_closesTooSoon_34 (by decide) (fun c_5 => ?_) (fun c_5 => ?_)
            · skip
              refine lv_iconst (v := (nI 0)) hx hb dX0_closesTooSoon_41 (by decide +kernel) ?_
              exact g_zret (Qr := (q_y_closes T y0 a0 sm fi ys y1 y2 yt an am al ao au a1 a2 a3 a4 a5 a6 a7 a8 a9 a10)) hC V ⟨(Nat.le_of_ble_eq_true rfl), (Nat.le_of_ble_eq_true rfl)⟩ (by first | decide +kernel | exact rfl) (.inr ⟨rfl, rfl⟩) dX0_closesTooSoon_42
            · skip
              refine lv_iconst (v := (nI 1)) hx hb dX0_closesTooSoon_37 (by decide +kernel) ?_
              refine lv_goto (tgt := 42) hx hb dX0_closesTooSoon_38 (by decide) ?_
              exact g_zret (Qr := (q_y_closes T y0 a0 sm fi ys y1 y2 yt an am al ao au a1 a2 a3 a4 a5 a6 a7 a8 a9 a10)) hC V ⟨(Nat.le_of_ble_eq_true rfl), (Nat.le_of_ble_eq_true rfl)⟩ (by first | decide +kernel | exact rfl) (.inl ⟨rfl, rfl⟩) dX0_closesTooSoon_42
  exact L_1 _ 0 (nI fi) (by omega) (Or.inr (bd_nI (by omega))) (Nat.lt_succ_self _) _ _ _ V (lv_sub hl [0, 1, 2, 3, 4, 5] rfl)

def q_fill7 (T : Nat → ClassId) (a : Nat) (x : Int32) (f0 : Nat → Int32) : Option Value → va_W → Prop := fun rr ww => (∃ (g : Nat → Int32), rr = none ∧ ww = [(a, .inl (T 0, 7, .inl g))] ∧ (∀ i, i < 7 → g i = x))
set_option maxHeartbeats 4000000 in
set_option maxRecDepth 100000 in
theorem c_fill7 (l : Launch) (D : va_G) (T : Nat → ClassId) (a : Nat) (x : Int32) (f0 : Nat → Int32) : Ct l yJ7_fill_53178 cJ7_fill_53178 4 none 0 0 0 D T [.ref a, .int x] [(a, .inl (T 0, 7, .inl f0))] (q_fill7 T a x f0) := by
  refine Ct.of (cc := cJ7_fill_53178) (maxL := 4) (ret := none) (by decide) (Nat.le_of_ble_eq_true rfl) ?_
  intro p e s m args below meth c A ls hC hnm V hl
  obtain ⟨hx, hb, hr, hml, hown, hts, hlocks⟩ := id hC
  generalize hH : s.heap = H at V ⊢
  clear hH
  have hl : lv_has ls 4 [(0, .ref a), (1, .int x)] := hl
  generalize hlo : ([] : List Loc) = locs at V ⊢
  clear hlo
  refine lv_iconst (v := (nI 0)) hx hb dJ7_fill_53178_0 (by decide +kernel) ?_
  refine lv_istore_n (lv' := [(2, .int (nI 0)), (0, .ref a), (1, .int x)]) hx hb dJ7_fill_53178_1 rfl hl (by decide) rfl (fun ls hl => ?_)
  refine lv_aload_n hx hb dJ7_fill_53178_2 rfl (lv_at hl 1 rfl) ?_
  refine g_alen hC V 0 0 rfl rfl dJ7_fill_53178_3 ?_
  refine lv_istore_n (lv' := [(3, .int (nI 7)), (2, .int (nI 0)), (0, .ref a), (1, .int x)]) hx hb dJ7_fill_53178_4 rfl hl (by decide) rfl (fun ls hl => ?_)
  have L_1 : ∀ (fu : Nat) (k : Nat) (f : Nat → Int32), k ≤ 7 → (∀ i, i < k → f i = x) → 7 - k < fu → ∀ (H : Heap) (locs : List Loc) (ls : Array Slot), gW D T A s [(a, .inl (T 0, 7, .inl f))] H locs → lv_has ls 4 [(3, .int (nI 7)), (2, .int (nI k)), (0, .ref a), (1, .int x)] → W p l e (rmD 0 0 0) s m args below meth c H locs 0 0 (MQ below (gQ D A (q_fill7 T a x f0)) args s 0 0 A) (F0 m 5 ls []) := by
    intro fu_5
    induction fu_5 with
    | zero => intro k f hk hf hmu; exact absurd hmu (Nat.not_lt_zero _)
    | succ fu_5 ih_5 =>
      intro k f hk hf hmu_5 H locs ls V hl
      refine lv_iload_n hx hb dJ7_fill_53178_5 rfl (lv_at hl 1 rfl) ?_
      refine lv_iload_n hx hb dJ7_fill_53178_6 rfl (lv_at hl 0 rfl) ?_
      refine lv_icmp_ge (tgt := 20) hx hb dJ7_fill_53178_7 (by decide) (fun c_2 => ?_) (fun c_2 => ?_)
      · skip
        have c_2 := b_le (by omega) (by omega) c_2
        exact g_vret (Qr := (q_fill7 T a x f0)) hC V ⟨(Nat.le_of_ble_eq_true rfl), (Nat.le_of_ble_eq_true rfl)⟩ ⟨f, rfl, rfl, (fun i h => hf i (by omega))⟩ dJ7_fill_53178_20
      · skip
        have c_2 := b_nle (by omega) (by omega) c_2
        refine lv_aload_n hx hb dJ7_fill_53178_10 rfl (lv_at hl 2 rfl) ?_
        refine lv_iload_n hx hb dJ7_fill_53178_11 rfl (lv_at hl 1 rfl) ?_
        refine lv_iload_n hx hb dJ7_fill_53178_12 rfl (lv_at hl 3 rfl) ?_
        refine g_iast hC V 0 rfl (vp_in_nI (by omega) (by omega)) (f' := (upd f k x)) (by rw [nI_clamp (by omega)]) (ws' := [(a, .inl (T 0, 7, .inl (upd f k x)))]) rfl dJ7_fill_53178_13 (fun H locs V => ?_)
        refine lv_iinc (v := (nI (k + 1))) (lv' := [(2, .int (nI (k + 1))), (3, .int (nI 7)), (0, .ref a), (1, .int x)]) hx hb dJ7_fill_53178_14 hl (k := 1) rfl (nI_1 _) (by decide) rfl (fun ls hl => ?_)
        refine lv_goto (tgt := 5) hx hb dJ7_fill_53178_17 (by decide) ?_
        exact ih_5 (k + 1) (upd f k x) (by omega) (up_one (p := fun i y => y = x) hf rfl) (by omega) _ _ _ V (lv_sub hl [1, 0, 2, 3] rfl)
  exact L_1 _ 0 f0 (by omega) (fun i h => absurd h (Nat.not_lt_zero _)) (Nat.lt_succ_self _) _ _ _ V (lv_sub hl [0, 1, 2, 3] rfl)

def q_y_lay7 (T : Nat → ClassId) (y0 : Nat) (a0 : Nat) (tk : Int32) (sum : Int32) (ys : Int32) (y1 : Nat) (y2 : Nat) (yb : Nat → Int32) (yt : Nat → Int32) (an : Nat) (am : Int32) (al : Int32) (ao : Int32) (au : Int32) (a1 : Nat) (a2 : Nat) (a3 : Nat) (a4 : Nat) (a5 : Nat) (a6 : Nat) (a7 : Nat) (a8 : Nat) (a9 : Nat) (a10 : Nat) (af1 : Nat → Int32) (af2 : Nat → Int32) : Option Value → va_W → Prop := fun rr ww => (∃ (bs : Int32) (g1 : Nat → Int32) (g2 : Nat → Int32), rr = none ∧ ww = [(y0, .inr (0, [.int bs, .ref y1, .ref y2])), (y1, .inl (T 0, 7, .inl g1)), (y2, .inl (T 0, 7, .inl g2)), (a0, .inr (5, [.int (nI an), .int am, .int al, .int ao, .int au, .ref a1, .ref a2, .ref a3, .ref a4, .ref a5, .ref a6, .ref a7, .ref a8, .ref a9, .ref a10])), (a1, .inl (T 0, 10, .inl af1)), (a2, .inl (T 0, 10, .inl af2))] ∧ (∀ i, i < 7 → (g2 i = -1 ∨ bd (g2 i) 7)))
set_option maxHeartbeats 4000000 in
set_option maxRecDepth 100000 in
theorem y_lay7 (l : Launch) (D : va_G) (T : Nat → ClassId) (y0 : Nat) (a0 : Nat) (tk : Int32) (sum : Int32) (ys : Int32) (y1 : Nat) (y2 : Nat) (yb : Nat → Int32) (yt : Nat → Int32) (an : Nat) (am : Int32) (al : Int32) (ao : Int32) (au : Int32) (a1 : Nat) (a2 : Nat) (a3 : Nat) (a4 : Nat) (a5 : Nat) (a6 : Nat) (a7 : Nat) (a8 : Nat) (a9 : Nat) (a10 : Nat) (af1 : Nat → Int32) (af2 : Nat → Int32) (h_n : an ≤ 7) (h_yt : ∀ i, i < 7 → (yt i = -1 ∨ bd (yt i) 7)) : Ct l yX0_layFrom cX0_layFrom 7 none 2 0 0 D T [.ref y0, .ref a0, .int (nI 7), .int tk, .int sum] [(y0, .inr (0, [.int ys, .ref y1, .ref y2])), (y1, .inl (T 0, 7, .inl yb)), (y2, .inl (T 0, 7, .inl yt)), (a0, .inr (5, [.int (nI an), .int am, .int al, .int ao, .int au, .ref a1, .ref a2, .ref a3, .ref a4, .ref a5, .ref a6, .ref a7, .ref a8, .ref a9, .ref a10])), (a1, .inl (T 0, 10, .inl af1)), (a2, .inl (T 0, 10, .inl af2))] (q_y_lay7 T y0 a0 tk sum ys y1 y2 yb yt an am al ao au a1 a2 a3 a4 a5 a6 a7 a8 a9 a10 af1 af2) := by
  refine Ct.of (cc := cX0_layFrom) (maxL := 7) (ret := none) (by decide) (Nat.le_of_ble_eq_true rfl) ?_
  intro p e s m args below meth c A ls hC hnm V hl
  obtain ⟨hx, hb, hr, hml, hown, hts, hlocks⟩ := id hC
  generalize hH : s.heap = H at V ⊢
  clear hH
  have hl : lv_has ls 7 [(0, .ref y0), (1, .ref a0), (2, .int (nI 7)), (3, .int tk), (4, .int sum)] := hl
  generalize hlo : ([] : List Loc) = locs at V ⊢
  clear hlo
  refine lv_aload_n hx hb dX0_layFrom_0 rfl (lv_at hl 0 rfl) ?_
  refine g_get hC V (ci := 0) uwX0 0 rfl rfl 0 (by decide) w_211 rfl rfl dX0_layFrom_1 ?_
  refine lv_iconst (v := (-1)) hx hb dX0_layFrom_4 (by decide +kernel) ?_
  refine lv_icmp_eq (tgt := 18) hx hb dX0_layFrom_5 (by decide) (fun c_1 => ?_) (fun c_1 => ?_)
  · skip
    refine lv_iload_n hx hb dX0_layFrom_18 rfl (lv_at hl 2 rfl) ?_
    refine lv_aload_n hx hb dX0_layFrom_19 rfl (lv_at hl 1 rfl) ?_
    refine g_get hC V (ci := 5) uwX5 3 rfl rfl 0 (by decide) w_35 rfl rfl dX0_layFrom_20 ?_
    refine lv_icmp_ge (tgt := 32) hx hb dX0_layFrom_23 (by decide) (fun c_2 => ?_) (fun c_2 => ?_)
    · skip
      have c_2 := b_le (by omega) (by omega) c_2
      refine lv_aload_n hx hb dX0_layFrom_32 rfl (lv_at hl 0 rfl) ?_
      refine lv_iload hx hb dX0_layFrom_33 (lv_at hl 4 rfl) ?_
      refine g_put hC V (ci := 0) uwX0 tyX0 tyX0_ok nmX0 0 rfl rfl 0 (by decide) w_211 rfl rfl rfl rfl (Nat.le_of_ble_eq_true rfl) (ws' := [(y0, .inr (0, [.int sum, .ref y1, .ref y2])), (y1, .inl (T 0, 7, .inl yb)), (y2, .inl (T 0, 7, .inl yt)), (a0, .inr (5, [.int (nI an), .int am, .int al, .int ao, .int au, .ref a1, .ref a2, .ref a3, .ref a4, .ref a5, .ref a6, .ref a7, .ref a8, .ref a9, .ref a10])), (a1, .inl (T 0, 10, .inl af1)), (a2, .inl (T 0, 10, .inl af2))]) rfl dX0_layFrom_35 (fun H locs V => ?_)
      refine lv_aload_n hx hb dX0_layFrom_38 rfl (lv_at hl 0 rfl) ?_
      refine g_get hC V (ci := 0) uwX0 0 rfl rfl 2 (by decide) w_215 rfl rfl dX0_layFrom_39 ?_
      refine lv_iconst (v := (nI 0)) hx hb dX0_layFrom_42 (by decide +kernel) ?_
      refine lv_aload_n hx hb dX0_layFrom_43 rfl (lv_at hl 0 rfl) ?_
      refine g_get hC V (ci := 0) uwX0 0 rfl rfl 1 (by decide) w_213 rfl rfl dX0_layFrom_44 ?_
      refine lv_iconst (v := (nI 0)) hx hb dX0_layFrom_47 (by decide +kernel) ?_
      refine lv_bipush (v := (nI 7)) hx hb dX0_layFrom_48 (by decide +kernel) ?_
      refine g_copyi hC V hl.1 w_808 w_672 w_671 w_17 2 1 rfl rfl (by decide +kernel) (by decide +kernel) (Nat.le_of_ble_eq_true rfl) (Nat.le_of_ble_eq_true rfl) (Nat.le_of_ble_eq_true rfl) dX0_layFrom_50 (fun g_3 H locs V => ?_)
      have V : gW D T A s [(y0, .inr (0, [.int sum, .ref y1, .ref y2])), (y1, .inl (T 0, 7, .inl g_3)), (y2, .inl (T 0, 7, .inl yt)), (a0, .inr (5, [.int (nI an), .int am, .int al, .int ao, .int au, .ref a1, .ref a2, .ref a3, .ref a4, .ref a5, .ref a6, .ref a7, .ref a8, .ref a9, .ref a10])), (a1, .inl (T 0, 10, .inl af1)), (a2, .inl (T 0, 10, .inl af2))] H locs := V
      exact g_vret (Qr := (q_y_lay7 T y0 a0 tk sum ys y1 y2 yb yt an am al ao au a1 a2 a3 a4 a5 a6 a7 a8 a9 a10 af1 af2)) hC V ⟨(Nat.le_of_ble_eq_true rfl), (Nat.le_of_ble_eq_true rfl)⟩ ⟨sum, g_3, yt, rfl, rfl, (by first | assumption | omega)⟩ dX0_layFrom_53
    · skip
      have c_2 := b_nle (by omega) (by omega) c_2
      refine lv_iload_n hx hb dX0_layFrom_26 rfl (lv_at hl 2 rfl) ?_
      refine lv_bipush (v := (nI 7)) hx hb dX0_layFrom_27 (by decide +kernel) ?_
      refine lv_icmp_lt (tgt := 54) hx hb dX0_layFrom_29 (by decide) (fun c => absurd (show (nI 7) < (nI 7) from c) (by decide +kernel)) (fun _ => ?_)
      refine lv_aload_n hx hb dX0_layFrom_32 rfl (lv_at hl 0 rfl) ?_
      refine lv_iload hx hb dX0_layFrom_33 (lv_at hl 4 rfl) ?_
      refine g_put hC V (ci := 0) uwX0 tyX0 tyX0_ok nmX0 0 rfl rfl 0 (by decide) w_211 rfl rfl rfl rfl (Nat.le_of_ble_eq_true rfl) (ws' := [(y0, .inr (0, [.int sum, .ref y1, .ref y2])), (y1, .inl (T 0, 7, .inl yb)), (y2, .inl (T 0, 7, .inl yt)), (a0, .inr (5, [.int (nI an), .int am, .int al, .int ao, .int au, .ref a1, .ref a2, .ref a3, .ref a4, .ref a5, .ref a6, .ref a7, .ref a8, .ref a9, .ref a10])), (a1, .inl (T 0, 10, .inl af1)), (a2, .inl (T 0, 10, .inl af2))]) rfl dX0_layFrom_35 (fun H locs V => ?_)
      refine lv_aload_n hx hb dX0_layFrom_38 rfl (lv_at hl 0 rfl) ?_
      refine g_get hC V (ci := 0) uwX0 0 rfl rfl 2 (by decide) w_215 rfl rfl dX0_layFrom_39 ?_
      refine lv_iconst (v := (nI 0)) hx hb dX0_layFrom_42 (by decide +kernel) ?_
      refine lv_aload_n hx hb dX0_layFrom_43 rfl (lv_at hl 0 rfl) ?_
      refine g_get hC V (ci := 0) uwX0 0 rfl rfl 1 (by decide) w_213 rfl rfl dX0_layFrom_44 ?_
      refine lv_iconst (v := (nI 0)) hx hb dX0_layFrom_47 (by decide +kernel) ?_
      refine lv_bipush (v := (nI 7)) hx hb dX0_layFrom_48 (by decide +kernel) ?_
      refine g_copyi hC V hl.1 w_808 w_672 w_671 w_17 2 1 rfl rfl (by decide +kernel) (by decide +kernel) (Nat.le_of_ble_eq_true rfl) (Nat.le_of_ble_eq_true rfl) (Nat.le_of_ble_eq_true rfl) dX0_layFrom_50 (fun g_4 H locs V => ?_)
      have V : gW D T A s [(y0, .inr (0, [.int sum, .ref y1, .ref y2])), (y1, .inl (T 0, 7, .inl g_4)), (y2, .inl (T 0, 7, .inl yt)), (a0, .inr (5, [.int (nI an), .int am, .int al, .int ao, .int au, .ref a1, .ref a2, .ref a3, .ref a4, .ref a5, .ref a6, .ref a7, .ref a8, .ref a9, .ref a10])), (a1, .inl (T 0, 10, .inl af1)), (a2, .inl (T 0, 10, .inl af2))] H locs := V
      exact g_vret (Qr := (q_y_lay7 T y0 a0 tk sum ys y1 y2 yb yt an am al ao au a1 a2 a3 a4 a5 a6 a7 a8 a9 a10 af1 af2)) hC V ⟨(Nat.le_of_ble_eq_true rfl), (Nat.le_of_ble_eq_true rfl)⟩ ⟨sum, g_4, yt, rfl, rfl, (by first | assumption | omega)⟩ dX0_layFrom_53
  · skip
    refine lv_iload hx hb dX0_layFrom_8 (lv_at hl 4 rfl) ?_
    refine lv_aload_n hx hb dX0_layFrom_10 rfl (lv_at hl 0 rfl) ?_
    refine g_get hC V (ci := 0) uwX0 0 rfl rfl 0 (by decide) w_211 rfl rfl dX0_layFrom_11 ?_
    refine lv_icmp_lt (tgt := 18) hx hb dX0_layFrom_14 (by decide) (fun c_5 => ?_) (fun c_5 => ?_)
    · skip
      refine lv_iload_n hx hb dX0_layFrom_18 rfl (lv_at hl 2 rfl) ?_
      refine lv_aload_n hx hb dX0_layFrom_19 rfl (lv_at hl 1 rfl) ?_
      refine g_get hC V (ci := 5) uwX5 3 rfl rfl 0 (by decide) w_35 rfl rfl dX0_layFrom_20 ?_
      refine lv_icmp_ge (tgt := 32) hx hb dX0_layFrom_23 (by decide) (fun c_6 => ?_) (fun c_6 => ?_)
      · skip
        have c_6 := b_le (by omega) (by omega) c_6
        refine lv_aload_n hx hb dX0_layFrom_32 rfl (lv_at hl 0 rfl) ?_
        refine lv_iload hx hb dX0_layFrom_33 (lv_at hl 4 rfl) ?_
        refine g_put hC V (ci := 0) uwX0 tyX0 tyX0_ok nmX0 0 rfl rfl 0 (by decide) w_211 rfl rfl rfl rfl (Nat.le_of_ble_eq_true rfl) (ws' := [(y0, .inr (0, [.int sum, .ref y1, .ref y2])), (y1, .inl (T 0, 7, .inl yb)), (y2, .inl (T 0, 7, .inl yt)), (a0, .inr (5, [.int (nI an), .int am, .int al, .int ao, .int au, .ref a1, .ref a2, .ref a3, .ref a4, .ref a5, .ref a6, .ref a7, .ref a8, .ref a9, .ref a10])), (a1, .inl (T 0, 10, .inl af1)), (a2, .inl (T 0, 10, .inl af2))]) rfl dX0_layFrom_35 (fun H locs V => ?_)
        refine lv_aload_n hx hb dX0_layFrom_38 rfl (lv_at hl 0 rfl) ?_
        refine g_get hC V (ci := 0) uwX0 0 rfl rfl 2 (by decide) w_215 rfl rfl dX0_layFrom_39 ?_
        refine lv_iconst (v := (nI 0)) hx hb dX0_layFrom_42 (by decide +kernel) ?_
        refine lv_aload_n hx hb dX0_layFrom_43 rfl (lv_at hl 0 rfl) ?_
        refine g_get hC V (ci := 0) uwX0 0 rfl rfl 1 (by decide) w_213 rfl rfl dX0_layFrom_44 ?_
        refine lv_iconst (v := (nI 0)) hx hb dX0_layFrom_47 (by decide +kernel) ?_
        refine lv_bipush (v := (nI 7)) hx hb dX0_layFrom_48 (by decide +kernel) ?_
        refine g_copyi hC V hl.1 w_808 w_672 w_671 w_17 2 1 rfl rfl (by decide +kernel) (by decide +kernel) (Nat.le_of_ble_eq_true rfl) (Nat.le_of_ble_eq_true rfl) (Nat.le_of_ble_eq_true rfl) dX0_layFrom_50 (fun g_7 H locs V => ?_)
        have V : gW D T A s [(y0, .inr (0, [.int sum, .ref y1, .ref y2])), (y1, .inl (T 0, 7, .inl g_7)), (y2, .inl (T 0, 7, .inl yt)), (a0, .inr (5, [.int (nI an), .int am, .int al, .int ao, .int au, .ref a1, .ref a2, .ref a3, .ref a4, .ref a5, .ref a6, .ref a7, .ref a8, .ref a9, .ref a10])), (a1, .inl (T 0, 10, .inl af1)), (a2, .inl (T 0, 10, .inl af2))] H locs := V
        exact g_vret (Qr := (q_y_lay7 T y0 a0 tk sum ys y1 y2 yb yt an am al ao au a1 a2 a3 a4 a5 a6 a7 a8 a9 a10 af1 af2)) hC V ⟨(Nat.le_of_ble_eq_true rfl), (Nat.le_of_ble_eq_true rfl)⟩ ⟨sum, g_7, yt, rfl, rfl, (by first | assumption | omega)⟩ dX0_layFrom_53
      · skip
        have c_6 := b_nle (by omega) (by omega) c_6
        refine lv_iload_n hx hb dX0_layFrom_26 rfl (lv_at hl 2 rfl) ?_
        refine lv_bipush (v := (nI 7)) hx hb dX0_layFrom_27 (by decide +kernel) ?_
        refine lv_icmp_lt (tgt := 54) hx hb dX0_layFrom_29 (by decide) (fun c => absurd (show (nI 7) < (nI 7) from c) (by decide +kernel)) (fun _ => ?_)
        refine lv_aload_n hx hb dX0_layFrom_32 rfl (lv_at hl 0 rfl) ?_
        refine lv_iload hx hb dX0_layFrom_33 (lv_at hl 4 rfl) ?_
        refine g_put hC V (ci := 0) uwX0 tyX0 tyX0_ok nmX0 0 rfl rfl 0 (by decide) w_211 rfl rfl rfl rfl (Nat.le_of_ble_eq_true rfl) (ws' := [(y0, .inr (0, [.int sum, .ref y1, .ref y2])), (y1, .inl (T 0, 7, .inl yb)), (y2, .inl (T 0, 7, .inl yt)), (a0, .inr (5, [.int (nI an), .int am, .int al, .int ao, .int au, .ref a1, .ref a2, .ref a3, .ref a4, .ref a5, .ref a6, .ref a7, .ref a8, .ref a9, .ref a10])), (a1, .inl (T 0, 10, .inl af1)), (a2, .inl (T 0, 10, .inl af2))]) rfl dX0_layFrom_35 (fun H locs V => ?_)
        refine lv_aload_n hx hb dX0_layFrom_38 rfl (lv_at hl 0 rfl) ?_
        refine g_get hC V (ci := 0) uwX0 0 rfl rfl 2 (by decide) w_215 rfl rfl dX0_layFrom_39 ?_
        refine lv_iconst (v := (nI 0)) hx hb dX0_layFrom_42 (by decide +kernel) ?_
        refine lv_aload_n hx hb dX0_layFrom_43 rfl (lv_at hl 0 rfl) ?_
        refine g_get hC V (ci := 0) uwX0 0 rfl rfl 1 (by decide) w_213 rfl rfl dX0_layFrom_44 ?_
        refine lv_iconst (v := (nI 0)) hx hb dX0_layFrom_47 (by decide +kernel) ?_
        refine lv_bipush (v := (nI 7)) hx hb dX0_layFrom_48 (by decide +kernel) ?_
        refine g_copyi hC V hl.1 w_808 w_672 w_671 w_17 2 1 rfl rfl (by decide +kernel) (by decide +kernel) (Nat.le_of_ble_eq_true rfl) (Nat.le_of_ble_eq_true rfl) (Nat.le_of_ble_eq_true rfl) dX0_layFrom_50 (fun g_8 H locs V => ?_)
        have V : gW D T A s [(y0, .inr (0, [.int sum, .ref y1, .ref y2])), (y1, .inl (T 0, 7, .inl g_8)), (y2, .inl (T 0, 7, .inl yt)), (a0, .inr (5, [.int (nI an), .int am, .int al, .int ao, .int au, .ref a1, .ref a2, .ref a3, .ref a4, .ref a5, .ref a6, .ref a7, .ref a8, .ref a9, .ref a10])), (a1, .inl (T 0, 10, .inl af1)), (a2, .inl (T 0, 10, .inl af2))] H locs := V
        exact g_vret (Qr := (q_y_lay7 T y0 a0 tk sum ys y1 y2 yb yt an am al ao au a1 a2 a3 a4 a5 a6 a7 a8 a9 a10 af1 af2)) hC V ⟨(Nat.le_of_ble_eq_true rfl), (Nat.le_of_ble_eq_true rfl)⟩ ⟨sum, g_8, yt, rfl, rfl, (by first | assumption | omega)⟩ dX0_layFrom_53
    · skip
      exact g_vret (Qr := (q_y_lay7 T y0 a0 tk sum ys y1 y2 yb yt an am al ao au a1 a2 a3 a4 a5 a6 a7 a8 a9 a10 af1 af2)) hC V ⟨(Nat.le_of_ble_eq_true rfl), (Nat.le_of_ble_eq_true rfl)⟩ ⟨ys, yb, yt, rfl, rfl, (by first | assumption | omega)⟩ dX0_layFrom_17

def q_y_lay6 (T : Nat → ClassId) (y0 : Nat) (a0 : Nat) (tk : Int32) (sum : Int32) (ys : Int32) (y1 : Nat) (y2 : Nat) (yb : Nat → Int32) (yt : Nat → Int32) (an : Nat) (am : Int32) (al : Int32) (ao : Int32) (au : Int32) (a1 : Nat) (a2 : Nat) (a3 : Nat) (a4 : Nat) (a5 : Nat) (a6 : Nat) (a7 : Nat) (a8 : Nat) (a9 : Nat) (a10 : Nat) (af1 : Nat → Int32) (af2 : Nat → Int32) : Option Value → va_W → Prop := fun rr ww => (∃ (bs : Int32) (g1 : Nat → Int32) (g2 : Nat → Int32), rr = none ∧ ww = [(y0, .inr (0, [.int bs, .ref y1, .ref y2])), (y1, .inl (T 0, 7, .inl g1)), (y2, .inl (T 0, 7, .inl g2)), (a0, .inr (5, [.int (nI an), .int am, .int al, .int ao, .int au, .ref a1, .ref a2, .ref a3, .ref a4, .ref a5, .ref a6, .ref a7, .ref a8, .ref a9, .ref a10])), (a1, .inl (T 0, 10, .inl af1)), (a2, .inl (T 0, 10, .inl af2))] ∧ (∀ i, i < 7 → (g2 i = -1 ∨ bd (g2 i) 7)))
set_option maxHeartbeats 4000000 in
set_option maxRecDepth 100000 in
theorem y_lay6 (l : Launch) (D : va_G) (T : Nat → ClassId) (y0 : Nat) (a0 : Nat) (tk : Int32) (sum : Int32) (ys : Int32) (y1 : Nat) (y2 : Nat) (yb : Nat → Int32) (yt : Nat → Int32) (an : Nat) (am : Int32) (al : Int32) (ao : Int32) (au : Int32) (a1 : Nat) (a2 : Nat) (a3 : Nat) (a4 : Nat) (a5 : Nat) (a6 : Nat) (a7 : Nat) (a8 : Nat) (a9 : Nat) (a10 : Nat) (af1 : Nat → Int32) (af2 : Nat → Int32) (h_n : an ≤ 7) (h_yt : ∀ i, i < 7 → (yt i = -1 ∨ bd (yt i) 7)) : Ct l yX0_layFrom cX0_layFrom 7 none 3 0 0 D T [.ref y0, .ref a0, .int (nI 6), .int tk, .int sum] [(y0, .inr (0, [.int ys, .ref y1, .ref y2])), (y1, .inl (T 0, 7, .inl yb)), (y2, .inl (T 0, 7, .inl yt)), (a0, .inr (5, [.int (nI an), .int am, .int al, .int ao, .int au, .ref a1, .ref a2, .ref a3, .ref a4, .ref a5, .ref a6, .ref a7, .ref a8, .ref a9, .ref a10])), (a1, .inl (T 0, 10, .inl af1)), (a2, .inl (T 0, 10, .inl af2))] (q_y_lay6 T y0 a0 tk sum ys y1 y2 yb yt an am al ao au a1 a2 a3 a4 a5 a6 a7 a8 a9 a10 af1 af2) := by
  refine Ct.of (cc := cX0_layFrom) (maxL := 7) (ret := none) (by decide) (Nat.le_of_ble_eq_true rfl) ?_
  intro p e s m args below meth c A ls hC hnm V hl
  obtain ⟨hx, hb, hr, hml, hown, hts, hlocks⟩ := id hC
  generalize hH : s.heap = H at V ⊢
  clear hH
  have hl : lv_has ls 7 [(0, .ref y0), (1, .ref a0), (2, .int (nI 6)), (3, .int tk), (4, .int sum)] := hl
  generalize hlo : ([] : List Loc) = locs at V ⊢
  clear hlo
  refine lv_aload_n hx hb dX0_layFrom_0 rfl (lv_at hl 0 rfl) ?_
  refine g_get hC V (ci := 0) uwX0 0 rfl rfl 0 (by decide) w_211 rfl rfl dX0_layFrom_1 ?_
  refine lv_iconst (v := (-1)) hx hb dX0_layFrom_4 (by decide +kernel) ?_
  refine lv_icmp_eq (tgt := 18) hx hb dX0_layFrom_5 (by decide) (fun c_1 => ?_) (fun c_1 => ?_)
  · skip
    refine lv_iload_n hx hb dX0_layFrom_18 rfl (lv_at hl 2 rfl) ?_
    refine lv_aload_n hx hb dX0_layFrom_19 rfl (lv_at hl 1 rfl) ?_
    refine g_get hC V (ci := 5) uwX5 3 rfl rfl 0 (by decide) w_35 rfl rfl dX0_layFrom_20 ?_
    refine lv_icmp_ge (tgt := 32) hx hb dX0_layFrom_23 (by decide) (fun c_2 => ?_) (fun c_2 => ?_)
    · skip
      have c_2 := b_le (by omega) (by omega) c_2
      refine lv_aload_n hx hb dX0_layFrom_32 rfl (lv_at hl 0 rfl) ?_
      refine lv_iload hx hb dX0_layFrom_33 (lv_at hl 4 rfl) ?_
      refine g_put hC V (ci := 0) uwX0 tyX0 tyX0_ok nmX0 0 rfl rfl 0 (by decide) w_211 rfl rfl rfl rfl (Nat.le_of_ble_eq_true rfl) (ws' := [(y0, .inr (0, [.int sum, .ref y1, .ref y2])), (y1, .inl (T 0, 7, .inl yb)), (y2, .inl (T 0, 7, .inl yt)), (a0, .inr (5, [.int (nI an), .int am, .int al, .int ao, .int au, .ref a1, .ref a2, .ref a3, .ref a4, .ref a5, .ref a6, .ref a7, .ref a8, .ref a9, .ref a10])), (a1, .inl (T 0, 10, .inl af1)), (a2, .inl (T 0, 10, .inl af2))]) rfl dX0_layFrom_35 (fun H locs V => ?_)
      refine lv_aload_n hx hb dX0_layFrom_38 rfl (lv_at hl 0 rfl) ?_
      refine g_get hC V (ci := 0) uwX0 0 rfl rfl 2 (by decide) w_215 rfl rfl dX0_layFrom_39 ?_
      refine lv_iconst (v := (nI 0)) hx hb dX0_layFrom_42 (by decide +kernel) ?_
      refine lv_aload_n hx hb dX0_layFrom_43 rfl (lv_at hl 0 rfl) ?_
      refine g_get hC V (ci := 0) uwX0 0 rfl rfl 1 (by decide) w_213 rfl rfl dX0_layFrom_44 ?_
      refine lv_iconst (v := (nI 0)) hx hb dX0_layFrom_47 (by decide +kernel) ?_
      refine lv_bipush (v := (nI 7)) hx hb dX0_layFrom_48 (by decide +kernel) ?_
      refine g_copyi hC V hl.1 w_808 w_672 w_671 w_17 2 1 rfl rfl (by decide +kernel) (by decide +kernel) (Nat.le_of_ble_eq_true rfl) (Nat.le_of_ble_eq_true rfl) (Nat.le_of_ble_eq_true rfl) dX0_layFrom_50 (fun g_3 H locs V => ?_)
      have V : gW D T A s [(y0, .inr (0, [.int sum, .ref y1, .ref y2])), (y1, .inl (T 0, 7, .inl g_3)), (y2, .inl (T 0, 7, .inl yt)), (a0, .inr (5, [.int (nI an), .int am, .int al, .int ao, .int au, .ref a1, .ref a2, .ref a3, .ref a4, .ref a5, .ref a6, .ref a7, .ref a8, .ref a9, .ref a10])), (a1, .inl (T 0, 10, .inl af1)), (a2, .inl (T 0, 10, .inl af2))] H locs := V
      exact g_vret (Qr := (q_y_lay6 T y0 a0 tk sum ys y1 y2 yb yt an am al ao au a1 a2 a3 a4 a5 a6 a7 a8 a9 a10 af1 af2)) hC V ⟨(Nat.le_of_ble_eq_true rfl), (Nat.le_of_ble_eq_true rfl)⟩ ⟨sum, g_3, yt, rfl, rfl, (by first | assumption | omega)⟩ dX0_layFrom_53
    · skip
      have c_2 := b_nle (by omega) (by omega) c_2
      refine lv_iload_n hx hb dX0_layFrom_26 rfl (lv_at hl 2 rfl) ?_
      refine lv_bipush (v := (nI 7)) hx hb dX0_layFrom_27 (by decide +kernel) ?_
      refine lv_icmp_lt (tgt := 54) hx hb dX0_layFrom_29 (by decide) (fun _ => ?_) (fun c => absurd (show (nI 6) < (nI 7) by first | rfl | decide +kernel) c)
      refine lv_iconst (v := (nI 0)) hx hb dX0_layFrom_54 (by decide +kernel) ?_
      refine lv_istore (lv' := [(5, .int (nI 0)), (0, .ref y0), (1, .ref a0), (2, .int (nI 6)), (3, .int tk), (4, .int sum)]) hx hb dX0_layFrom_55 hl (by decide) rfl (fun ls hl => ?_)
      have L_4 : ∀ (fu : Nat) (k57 : Nat) (bv : Int32) (ga : Nat → Int32) (gb : Nat → Int32), k57 ≤ an → (∀ i, i < 7 → (gb i = -1 ∨ bd (gb i) 7)) → an - k57 < fu → ∀ (H : Heap) (locs : List Loc) (ls : Array Slot), gW D T A s [(y0, .inr (0, [.int bv, .ref y1, .ref y2])), (y1, .inl (T 0, 7, .inl ga)), (y2, .inl (T 0, 7, .inl gb)), (a0, .inr (5, [.int (nI an), .int am, .int al, .int ao, .int au, .ref a1, .ref a2, .ref a3, .ref a4, .ref a5, .ref a6, .ref a7, .ref a8, .ref a9, .ref a10])), (a1, .inl (T 0, 10, .inl af1)), (a2, .inl (T 0, 10, .inl af2))] H locs → lv_has ls 7 [(5, .int (nI k57)), (0, .ref y0), (1, .ref a0), (2, .int (nI 6)), (3, .int tk), (4, .int sum)] → W p l e (rmD 3 0 0) s m args below meth c H locs 0 0 (MQ below (gQ D A (q_y_lay6 T y0 a0 tk sum ys y1 y2 yb yt an am al ao au a1 a2 a3 a4 a5 a6 a7 a8 a9 a10 af1 af2)) args s 0 0 A) (F0 m 57 ls []) := by
        intro fu_57
        induction fu_57 with
        | zero => intro k57 bv ga gb hk57 hgb hmu; exact absurd hmu (Nat.not_lt_zero _)
        | succ fu_57 ih_57 =>
          intro k57 bv ga gb hk57 hgb hmu_57 H locs ls V hl
          refine lv_iload hx hb dX0_layFrom_57 (lv_at hl 0 rfl) ?_
          refine lv_aload_n hx hb dX0_layFrom_59 rfl (lv_at hl 2 rfl) ?_
          refine g_get hC V (ci := 5) uwX5 3 rfl rfl 0 (by decide) w_35 rfl rfl dX0_layFrom_60 ?_
          refine lv_icmp_ge (tgt := 145) hx hb dX0_layFrom_63 (by decide) (fun c_5 => ?_) (fun c_5 => ?_)
          · skip
            have c_5 := b_le (by omega) (by omega) c_5
            exact g_vret (Qr := (q_y_lay6 T y0 a0 tk sum ys y1 y2 yb yt an am al ao au a1 a2 a3 a4 a5 a6 a7 a8 a9 a10 af1 af2)) hC V ⟨(Nat.le_of_ble_eq_true rfl), (Nat.le_of_ble_eq_true rfl)⟩ ⟨bv, ga, gb, rfl, rfl, (by first | assumption | omega)⟩ dX0_layFrom_145
          · skip
            have c_5 := b_nle (by omega) (by omega) c_5
            refine lv_iload_n hx hb dX0_layFrom_66 rfl (lv_at hl 4 rfl) ?_
            refine lv_iload hx hb dX0_layFrom_67 (lv_at hl 0 rfl) ?_
            refine g_callSNU (nA := 2) (host := RX7) hC V hl.1 (c_isIn l D T tk (nI k57)) w_472 (List.mem_of_getElem? (i := 7) rfl) w_2 w_471 (by decide +kernel) rfl ⟨(Nat.le_of_ble_eq_true rfl), (Nat.le_of_ble_eq_true rfl)⟩ [] rfl rfl (Nat.le_of_ble_eq_true rfl) dX0_layFrom_69 ⟨(Nat.le_of_ble_eq_true rfl), (Nat.le_of_ble_eq_true rfl)⟩ rfl (fun r w1 H locs hQ V => ?_)
            rcases hQ with ⟨rfl, rfl⟩ | ⟨rfl, rfl⟩
            · have V : gW D T A s [(y0, .inr (0, [.int bv, .ref y1, .ref y2])), (y1, .inl (T 0, 7, .inl ga)), (y2, .inl (T 0, 7, .inl gb)), (a0, .inr (5, [.int (nI an), .int am, .int al, .int ao, .int au, .ref a1, .ref a2, .ref a3, .ref a4, .ref a5, .ref a6, .ref a7, .ref a8, .ref a9, .ref a10])), (a1, .inl (T 0, 10, .inl af1)), (a2, .inl (T 0, 10, .inl af2))] H locs := V _ [] rfl rfl rfl (by decide +kernel) rfl
              show W p l e _ s m args below meth c H locs _ _ _ (F0 m 72 ls [.int (nI 1)])
              refine lv_if_ne (tgt := 139) hx hb dX0_layFrom_72 (by decide) (fun _ => ?_) (fun c => absurd (show (nI 1) = 0 from c) (by decide +kernel))
              refine lv_iinc (v := (nI (k57 + 1))) (lv' := [(5, .int (nI (k57 + 1))), (0, .ref y0), (1, .ref a0), (2, .int (nI 6)), (3, .int tk), (4, .int sum)]) hx hb dX0_layFrom_139 hl (k := 0) rfl (nI_1 _) (by decide) rfl (fun ls hl => ?_)
              refine lv_goto (tgt := 57) hx hb dX0_layFrom_142 (by decide) ?_
              exact ih_57 (k57 + 1) bv ga gb (by omega) (by assumption) (by omega) _ _ _ V (lv_sub hl [0, 1, 2, 3, 4, 5] rfl)
            · have V : gW D T A s [(y0, .inr (0, [.int bv, .ref y1, .ref y2])), (y1, .inl (T 0, 7, .inl ga)), (y2, .inl (T 0, 7, .inl gb)), (a0, .inr (5, [.int (nI an), .int am, .int al, .int ao, .int au, .ref a1, .ref a2, .ref a3, .ref a4, .ref a5, .ref a6, .ref a7, .ref a8, .ref a9, .ref a10])), (a1, .inl (T 0, 10, .inl af1)), (a2, .inl (T 0, 10, .inl af2))] H locs := V _ [] rfl rfl rfl (by decide +kernel) rfl
              show W p l e _ s m args below meth c H locs _ _ _ (F0 m 72 ls [.int (nI 0)])
              refine lv_if_ne (tgt := 139) hx hb dX0_layFrom_72 (by decide) (fun c => absurd (show (nI 0) = 0 by decide +kernel) c) (fun _ => ?_)
              refine lv_aload_n hx hb dX0_layFrom_75 rfl (lv_at hl 1 rfl) ?_
              refine lv_aload_n hx hb dX0_layFrom_76 rfl (lv_at hl 2 rfl) ?_
              refine lv_iload_n hx hb dX0_layFrom_77 rfl (lv_at hl 3 rfl) ?_
              refine lv_iload hx hb dX0_layFrom_78 (lv_at hl 0 rfl) ?_
              refine g_callVU (nA := 3) hC V hl.1 (y_closes l D T y0 a0 6 k57 bv y1 y2 gb an am al ao au a1 a2 a3 a4 a5 a6 a7 a8 a9 a10 (by first | assumption | omega) hgb (by first | assumption | omega) (by first | assumption | omega)) w_810 w_812 w_s32 w_7 w_813 (by decide +kernel) rfl ⟨(Nat.le_of_ble_eq_true rfl), (Nat.le_of_ble_eq_true rfl)⟩ 0 (ci := 0) rfl rfl [0, 2, 3] rfl rfl (Nat.le_of_ble_eq_true rfl) dX0_layFrom_80 ⟨(Nat.le_of_ble_eq_true rfl), (Nat.le_of_ble_eq_true rfl)⟩ rfl (fun r w1 H locs hQ V => ?_)
              rcases hQ with ⟨rfl, rfl⟩ | ⟨rfl, rfl⟩
              · have V : gW D T A s [(y0, .inr (0, [.int bv, .ref y1, .ref y2])), (y1, .inl (T 0, 7, .inl ga)), (y2, .inl (T 0, 7, .inl gb)), (a0, .inr (5, [.int (nI an), .int am, .int al, .int ao, .int au, .ref a1, .ref a2, .ref a3, .ref a4, .ref a5, .ref a6, .ref a7, .ref a8, .ref a9, .ref a10])), (a1, .inl (T 0, 10, .inl af1)), (a2, .inl (T 0, 10, .inl af2))] H locs := V _ [0, 1, 0] rfl rfl rfl (by decide +kernel) rfl
                show W p l e _ s m args below meth c H locs _ _ _ (F0 m 83 ls [.int (nI 1)])
                refine lv_if_ne (tgt := 139) hx hb dX0_layFrom_83 (by decide) (fun _ => ?_) (fun c => absurd (show (nI 1) = 0 from c) (by decide +kernel))
                refine lv_iinc (v := (nI (k57 + 1))) (lv' := [(5, .int (nI (k57 + 1))), (0, .ref y0), (1, .ref a0), (2, .int (nI 6)), (3, .int tk), (4, .int sum)]) hx hb dX0_layFrom_139 hl (k := 0) rfl (nI_1 _) (by decide) rfl (fun ls hl => ?_)
                refine lv_goto (tgt := 57) hx hb dX0_layFrom_142 (by decide) ?_
                exact ih_57 (k57 + 1) bv ga gb (by omega) (by assumption) (by omega) _ _ _ V (lv_sub hl [0, 1, 2, 3, 4, 5] rfl)
              · have V : gW D T A s [(y0, .inr (0, [.int bv, .ref y1, .ref y2])), (y1, .inl (T 0, 7, .inl ga)), (y2, .inl (T 0, 7, .inl gb)), (a0, .inr (5, [.int (nI an), .int am, .int al, .int ao, .int au, .ref a1, .ref a2, .ref a3, .ref a4, .ref a5, .ref a6, .ref a7, .ref a8, .ref a9, .ref a10])), (a1, .inl (T 0, 10, .inl af1)), (a2, .inl (T 0, 10, .inl af2))] H locs := V _ [0, 1, 0] rfl rfl rfl (by decide +kernel) rfl
                show W p l e _ s m args below meth c H locs _ _ _ (F0 m 83 ls [.int (nI 0)])
                refine lv_if_ne (tgt := 139) hx hb dX0_layFrom_83 (by decide) (fun c => absurd (show (nI 0) = 0 by decide +kernel) c) (fun _ => ?_)
                refine lv_aload_n hx hb dX0_layFrom_86 rfl (lv_at hl 1 rfl) ?_
                refine g_get hC V (ci := 0) uwX0 0 rfl rfl 2 (by decide) w_215 rfl rfl dX0_layFrom_87 ?_
                refine lv_iload_n hx hb dX0_layFrom_90 rfl (lv_at hl 3 rfl) ?_
                refine lv_iload hx hb dX0_layFrom_91 (lv_at hl 0 rfl) ?_
                refine g_iast hC V 2 rfl (vp_in_nI (by decide) (by decide)) (f' := (upd gb 6 (nI k57))) (by rw [nI_clamp (by decide)]) (ws' := [(y0, .inr (0, [.int bv, .ref y1, .ref y2])), (y1, .inl (T 0, 7, .inl ga)), (y2, .inl (T 0, 7, .inl (upd gb 6 (nI k57)))), (a0, .inr (5, [.int (nI an), .int am, .int al, .int ao, .int au, .ref a1, .ref a2, .ref a3, .ref a4, .ref a5, .ref a6, .ref a7, .ref a8, .ref a9, .ref a10])), (a1, .inl (T 0, 10, .inl af1)), (a2, .inl (T 0, 10, .inl af2))]) rfl dX0_layFrom_93 (fun H locs V => ?_)
                refine lv_aload_n hx hb dX0_layFrom_94 rfl (lv_at hl 2 rfl) ?_
                refine g_get hC V (ci := 5) uwX5 3 rfl rfl 5 (by decide) w_52 rfl rfl dX0_layFrom_95 ?_
                refine lv_iload_n hx hb dX0_layFrom_98 rfl (lv_at hl 3 rfl) ?_
                refine g_iald hC V 4 rfl (vp_in_nI (by decide) (by decide)) (v := (af1 6)) (congrArg _ (nI_clamp (by decide))) dX0_layFrom_99 ?_
                refine lv_aload_n hx hb dX0_layFrom_100 rfl (lv_at hl 2 rfl) ?_
                refine g_get hC V (ci := 5) uwX5 3 rfl rfl 6 (by decide) w_58 rfl rfl dX0_layFrom_101 ?_
                refine lv_iload hx hb dX0_layFrom_104 (lv_at hl 0 rfl) ?_
                refine g_iald hC V 5 rfl (vp_in_nI (by omega) (by omega)) (v := (af2 k57)) (congrArg _ (nI_clamp (by omega))) dX0_layFrom_106 ?_
                refine lv_isub hx hb dX0_layFrom_107 ?_
                refine va_mabs hx hb (hml.trans hl.1.symm) hown (hts _ w_814) (hts _ w_815) (hts _ w_10) (hts _ w_816) (Nat.le_of_ble_eq_true rfl) (Nat.le_of_ble_eq_true rfl) (Nat.le_of_ble_eq_true rfl) (Nat.le_of_ble_eq_true rfl) dX0_layFrom_108 ?_
                refine lv_topi (fun x_6 ex_6 => ?_)
                refine lv_istore (lv' := [(6, .int x_6), (5, .int (nI k57)), (0, .ref y0), (1, .ref a0), (2, .int (nI 6)), (3, .int tk), (4, .int sum)]) hx hb dX0_layFrom_111 hl (by decide) rfl (fun ls hl => ?_)
                refine lv_aload_n hx hb dX0_layFrom_113 rfl (lv_at hl 2 rfl) ?_
                refine lv_aload_n hx hb dX0_layFrom_114 rfl (lv_at hl 3 rfl) ?_
                refine lv_iload_n hx hb dX0_layFrom_115 rfl (lv_at hl 4 rfl) ?_
                refine lv_iconst (v := (nI 1)) hx hb dX0_layFrom_116 (by decide +kernel) ?_
                refine lv_iadd hx hb dX0_layFrom_117 ?_
                refine g_vi (y := (nI 7)) (by decide +kernel) ?_
                refine lv_iload_n hx hb dX0_layFrom_118 rfl (lv_at hl 5 rfl) ?_
                refine lv_iconst (v := (nI 1)) hx hb dX0_layFrom_119 (by decide +kernel) ?_
                refine lv_iload hx hb dX0_layFrom_120 (lv_at hl 1 rfl) ?_
                refine lv_ishl hx hb dX0_layFrom_122 ?_
                refine lv_ior hx hb dX0_layFrom_123 ?_
                refine lv_iload hx hb dX0_layFrom_124 (lv_at hl 6 rfl) ?_
                refine lv_iload hx hb dX0_layFrom_126 (lv_at hl 0 rfl) ?_
                refine lv_iadd hx hb dX0_layFrom_128 ?_
                refine g_callV (wr := []) (nA := 4) hC V hl.1 (y_lay7 l D T y0 a0 (tk ||| ((nI 1) <<< ((nI k57) &&& 31))) (sum + x_6) bv y1 y2 ga (upd gb 6 (nI k57)) an am al ao au a1 a2 a3 a4 a5 a6 a7 a8 a9 a10 af1 af2 (by first | assumption | omega) (up_all (p := fun x => x = -1 ∨ bd x 7) hgb (fun _ => Or.inr (bd_nI (by omega))))) w_804 w_806 w_s31 w_7 w_807 (by decide +kernel) rfl ⟨(Nat.le_of_ble_eq_true rfl), (Nat.le_of_ble_eq_true rfl)⟩ 0 (ci := 0) rfl rfl [0, 1, 2, 3, 4, 5] [] rfl rfl rfl rfl (by decide) (Nat.le_of_ble_eq_true rfl) dX0_layFrom_129 ⟨(Nat.le_of_ble_eq_true rfl), (Nat.le_of_ble_eq_true rfl)⟩ rfl (fun r w1 H locs hQ V => ?_)
                obtain ⟨bs_7, g1_8, g2_9, rfl, rfl, f_10⟩ := hQ
                have V : gW D T A s [(y0, .inr (0, [.int bs_7, .ref y1, .ref y2])), (y1, .inl (T 0, 7, .inl g1_8)), (y2, .inl (T 0, 7, .inl g2_9)), (a0, .inr (5, [.int (nI an), .int am, .int al, .int ao, .int au, .ref a1, .ref a2, .ref a3, .ref a4, .ref a5, .ref a6, .ref a7, .ref a8, .ref a9, .ref a10])), (a1, .inl (T 0, 10, .inl af1)), (a2, .inl (T 0, 10, .inl af2))] H locs := V
                show W p l e _ s m args below meth c H locs _ _ _ (F0 m 132 ls [])
                have hq := up_all (p := fun x => x = -1 ∨ bd x 7) (k := 6) (x := -1) f_10 (fun _ => Or.inl rfl)
                refine lv_aload_n hx hb dX0_layFrom_132 rfl (lv_at hl 2 rfl) ?_
                refine g_get hC V (ci := 0) uwX0 0 rfl rfl 2 (by decide) w_215 rfl rfl dX0_layFrom_133 ?_
                refine lv_iload_n hx hb dX0_layFrom_136 rfl (lv_at hl 4 rfl) ?_
                refine lv_iconst (v := (-1)) hx hb dX0_layFrom_137 (by decide +kernel) ?_
                refine g_iast hC V 2 rfl (vp_in_nI (by decide) (by decide)) (f' := (upd g2_9 6 (-1))) (by rw [nI_clamp (by decide)]) (ws' := [(y0, .inr (0, [.int bs_7, .ref y1, .ref y2])), (y1, .inl (T 0, 7, .inl g1_8)), (y2, .inl (T 0, 7, .inl (upd g2_9 6 (-1)))), (a0, .inr (5, [.int (nI an), .int am, .int al, .int ao, .int au, .ref a1, .ref a2, .ref a3, .ref a4, .ref a5, .ref a6, .ref a7, .ref a8, .ref a9, .ref a10])), (a1, .inl (T 0, 10, .inl af1)), (a2, .inl (T 0, 10, .inl af2))]) rfl dX0_layFrom_138 (fun H locs V => ?_)
                refine lv_iinc (v := (nI (k57 + 1))) (lv' := [(5, .int (nI (k57 + 1))), (6, .int x_6), (0, .ref y0), (1, .ref a0), (2, .int (nI 6)), (3, .int tk), (4, .int sum)]) hx hb dX0_layFrom_139 hl (k := 1) rfl (nI_1 _) (by decide) rfl (fun ls hl => ?_)
                refine lv_goto (tgt := 57) hx hb dX0_layFrom_142 (by decide) ?_
                exact ih_57 (k57 + 1) bs_7 g1_8 (upd g2_9 6 (-1)) (by omega) (by assumption) (by omega) _ _ _ V (lv_sub hl [0, 2, 3, 4, 5, 6] rfl)
      exact L_4 _ 0 ys yb yt (by omega) h_yt (Nat.lt_succ_self _) _ _ _ V (lv_sub hl [0, 1, 2, 3, 4, 5] rfl)
  · skip
    refine lv_iload hx hb dX0_layFrom_8 (lv_at hl 4 rfl) ?_
    refine lv_aload_n hx hb dX0_layFrom_10 rfl (lv_at hl 0 rfl) ?_
    refine g_get hC V (ci := 0) uwX0 0 rfl rfl 0 (by decide) w_211 rfl rfl dX0_layFrom_11 ?_
    refine lv_icmp_lt (tgt := 18) hx hb dX0_layFrom_14 (by decide) (fun c_11 => ?_) (fun c_11 => ?_)
    · skip
      refine lv_iload_n hx hb dX0_layFrom_18 rfl (lv_at hl 2 rfl) ?_
      refine lv_aload_n hx hb dX0_layFrom_19 rfl (lv_at hl 1 rfl) ?_
      refine g_get hC V (ci := 5) uwX5 3 rfl rfl 0 (by decide) w_35 rfl rfl dX0_layFrom_20 ?_
      refine lv_icmp_ge (tgt := 32) hx hb dX0_layFrom_23 (by decide) (fun c_12 => ?_) (fun c_12 => ?_)
      · skip
        have c_12 := b_le (by omega) (by omega) c_12
        refine lv_aload_n hx hb dX0_layFrom_32 rfl (lv_at hl 0 rfl) ?_
        refine lv_iload hx hb dX0_layFrom_33 (lv_at hl 4 rfl) ?_
        refine g_put hC V (ci := 0) uwX0 tyX0 tyX0_ok nmX0 0 rfl rfl 0 (by decide) w_211 rfl rfl rfl rfl (Nat.le_of_ble_eq_true rfl) (ws' := [(y0, .inr (0, [.int sum, .ref y1, .ref y2])), (y1, .inl (T 0, 7, .inl yb)), (y2, .inl (T 0, 7, .inl yt)), (a0, .inr (5, [.int (nI an), .int am, .int al, .int ao, .int au, .ref a1, .ref a2, .ref a3, .ref a4, .ref a5, .ref a6, .ref a7, .ref a8, .ref a9, .ref a10])), (a1, .inl (T 0, 10, .inl af1)), (a2, .inl (T 0, 10, .inl af2))]) rfl dX0_layFrom_35 (fun H locs V => ?_)
        refine lv_aload_n hx hb dX0_layFrom_38 rfl (lv_at hl 0 rfl) ?_
        refine g_get hC V (ci := 0) uwX0 0 rfl rfl 2 (by decide) w_215 rfl rfl dX0_layFrom_39 ?_
        refine lv_iconst (v := (nI 0)) hx hb dX0_layFrom_42 (by decide +kernel) ?_
        refine lv_aload_n hx hb dX0_layFrom_43 rfl (lv_at hl 0 rfl) ?_
        refine g_get hC V (ci := 0) uwX0 0 rfl rfl 1 (by decide) w_213 rfl rfl dX0_layFrom_44 ?_
        refine lv_iconst (v := (nI 0)) hx hb dX0_layFrom_47 (by decide +kernel) ?_
        refine lv_bipush (v := (nI 7)) hx hb dX0_layFrom_48 (by decide +kernel) ?_
        refine g_copyi hC V hl.1 w_808 w_672 w_671 w_17 2 1 rfl rfl (by decide +kernel) (by decide +kernel) (Nat.le_of_ble_eq_true rfl) (Nat.le_of_ble_eq_true rfl) (Nat.le_of_ble_eq_true rfl) dX0_layFrom_50 (fun g_13 H locs V => ?_)
        have V : gW D T A s [(y0, .inr (0, [.int sum, .ref y1, .ref y2])), (y1, .inl (T 0, 7, .inl g_13)), (y2, .inl (T 0, 7, .inl yt)), (a0, .inr (5, [.int (nI an), .int am, .int al, .int ao, .int au, .ref a1, .ref a2, .ref a3, .ref a4, .ref a5, .ref a6, .ref a7, .ref a8, .ref a9, .ref a10])), (a1, .inl (T 0, 10, .inl af1)), (a2, .inl (T 0, 10, .inl af2))] H locs := V
        exact g_vret (Qr := (q_y_lay6 T y0 a0 tk sum ys y1 y2 yb yt an am al ao au a1 a2 a3 a4 a5 a6 a7 a8 a9 a10 af1 af2)) hC V ⟨(Nat.le_of_ble_eq_true rfl), (Nat.le_of_ble_eq_true rfl)⟩ ⟨sum, g_13, yt, rfl, rfl, (by first | assumption | omega)⟩ dX0_layFrom_53
      · skip
        have c_12 := b_nle (by omega) (by omega) c_12
        refine lv_iload_n hx hb dX0_layFrom_26 rfl (lv_at hl 2 rfl) ?_
        refine lv_bipush (v := (nI 7)) hx hb dX0_layFrom_27 (by decide +kernel) ?_
        refine lv_icmp_lt (tgt := 54) hx hb dX0_layFrom_29 (by decide) (fun _ => ?_) (fun c => absurd (show (nI 6) < (nI 7) by first | rfl | decide +kernel) c)
        refine lv_iconst (v := (nI 0)) hx hb dX0_layFrom_54 (by decide +kernel) ?_
        refine lv_istore (lv' := [(5, .int (nI 0)), (0, .ref y0), (1, .ref a0), (2, .int (nI 6)), (3, .int tk), (4, .int sum)]) hx hb dX0_layFrom_55 hl (by decide) rfl (fun ls hl => ?_)
        have L_14 : ∀ (fu : Nat) (k57 : Nat) (bv : Int32) (ga : Nat → Int32) (gb : Nat → Int32), k57 ≤ an → (∀ i, i < 7 → (gb i = -1 ∨ bd (gb i) 7)) → an - k57 < fu → ∀ (H : Heap) (locs : List Loc) (ls : Array Slot), gW D T A s [(y0, .inr (0, [.int bv, .ref y1, .ref y2])), (y1, .inl (T 0, 7, .inl ga)), (y2, .inl (T 0, 7, .inl gb)), (a0, .inr (5, [.int (nI an), .int am, .int al, .int ao, .int au, .ref a1, .ref a2, .ref a3, .ref a4, .ref a5, .ref a6, .ref a7, .ref a8, .ref a9, .ref a10])), (a1, .inl (T 0, 10, .inl af1)), (a2, .inl (T 0, 10, .inl af2))] H locs → lv_has ls 7 [(5, .int (nI k57)), (0, .ref y0), (1, .ref a0), (2, .int (nI 6)), (3, .int tk), (4, .int sum)] → W p l e (rmD 3 0 0) s m args below meth c H locs 0 0 (MQ below (gQ D A (q_y_lay6 T y0 a0 tk sum ys y1 y2 yb yt an am al ao au a1 a2 a3 a4 a5 a6 a7 a8 a9 a10 af1 af2)) args s 0 0 A) (F0 m 57 ls []) := by
          intro fu_57
          induction fu_57 with
          | zero => intro k57 bv ga gb hk57 hgb hmu; exact absurd hmu (Nat.not_lt_zero _)
          | succ fu_57 ih_57 =>
            intro k57 bv ga gb hk57 hgb hmu_57 H locs ls V hl
            refine lv_iload hx hb dX0_layFrom_57 (lv_at hl 0 rfl) ?_
            refine lv_aload_n hx hb dX0_layFrom_59 rfl (lv_at hl 2 rfl) ?_
            refine g_get hC V (ci := 5) uwX5 3 rfl rfl 0 (by decide) w_35 rfl rfl dX0_layFrom_60 ?_
            refine lv_icmp_ge (tgt := 145) hx hb dX0_layFrom_63 (by decide) (fun c_15 => ?_) (fun c_15 => ?_)
            · skip
              have c_15 := b_le (by omega) (by omega) c_15
              exact g_vret (Qr := (q_y_lay6 T y0 a0 tk sum ys y1 y2 yb yt an am al ao au a1 a2 a3 a4 a5 a6 a7 a8 a9 a10 af1 af2)) hC V ⟨(Nat.le_of_ble_eq_true rfl), (Nat.le_of_ble_eq_true rfl)⟩ ⟨bv, ga, gb, rfl, rfl, (by first | assumption | omega)⟩ dX0_layFrom_145
            · skip
              have c_15 := b_nle (by omega) (by omega) c_15
              refine lv_iload_n hx hb dX0_layFrom_66 rfl (lv_at hl 4 rfl) ?_
              refine lv_iload hx hb dX0_layFrom_67 (lv_at hl 0 rfl) ?_
              refine g_callSNU (nA := 2) (host := RX7) hC V hl.1 (c_isIn l D T tk (nI k57)) w_472 (List.mem_of_getElem? (i := 7) rfl) w_2 w_471 (by decide +kernel) rfl ⟨(Nat.le_of_ble_eq_true rfl), (Nat.le_of_ble_eq_true rfl)⟩ [] rfl rfl (Nat.le_of_ble_eq_true rfl) dX0_layFrom_69 ⟨(Nat.le_of_ble_eq_true rfl), (Nat.le_of_ble_eq_true rfl)⟩ rfl (fun r w1 H locs hQ V => ?_)
              rcases hQ with ⟨rfl, rfl⟩ | ⟨rfl, rfl⟩
              · have V : gW D T A s [(y0, .inr (0, [.int bv, .ref y1, .ref y2])), (y1, .inl (T 0, 7, .inl ga)), (y2, .inl (T 0, 7, .inl gb)), (a0, .inr (5, [.int (nI an), .int am, .int al, .int ao, .int au, .ref a1, .ref a2, .ref a3, .ref a4, .ref a5, .ref a6, .ref a7, .ref a8, .ref a9, .ref a10])), (a1, .inl (T 0, 10, .inl af1)), (a2, .inl (T 0, 10, .inl af2))] H locs := V _ [] rfl rfl rfl (by decide +kernel) rfl
                show W p l e _ s m args below meth c H locs _ _ _ (F0 m 72 ls [.int (nI 1)])
                refine lv_if_ne (tgt := 139) hx hb dX0_layFrom_72 (by decide) (fun _ => ?_) (fun c => absurd (show (nI 1) = 0 from c) (by decide +kernel))
                refine lv_iinc (v := (nI (k57 + 1))) (lv' := [(5, .int (nI (k57 + 1))), (0, .ref y0), (1, .ref a0), (2, .int (nI 6)), (3, .int tk), (4, .int sum)]) hx hb dX0_layFrom_139 hl (k := 0) rfl (nI_1 _) (by decide) rfl (fun ls hl => ?_)
                refine lv_goto (tgt := 57) hx hb dX0_layFrom_142 (by decide) ?_
                exact ih_57 (k57 + 1) bv ga gb (by omega) (by assumption) (by omega) _ _ _ V (lv_sub hl [0, 1, 2, 3, 4, 5] rfl)
              · have V : gW D T A s [(y0, .inr (0, [.int bv, .ref y1, .ref y2])), (y1, .inl (T 0, 7, .inl ga)), (y2, .inl (T 0, 7, .inl gb)), (a0, .inr (5, [.int (nI an), .int am, .int al, .int ao, .int au, .ref a1, .ref a2, .ref a3, .ref a4, .ref a5, .ref a6, .ref a7, .ref a8, .ref a9, .ref a10])), (a1, .inl (T 0, 10, .inl af1)), (a2, .inl (T 0, 10, .inl af2))] H locs := V _ [] rfl rfl rfl (by decide +kernel) rfl
                show W p l e _ s m args below meth c H locs _ _ _ (F0 m 72 ls [.int (nI 0)])
                refine lv_if_ne (tgt := 139) hx hb dX0_layFrom_72 (by decide) (fun c => absurd (show (nI 0) = 0 by decide +kernel) c) (fun _ => ?_)
                refine lv_aload_n hx hb dX0_layFrom_75 rfl (lv_at hl 1 rfl) ?_
                refine lv_aload_n hx hb dX0_layFrom_76 rfl (lv_at hl 2 rfl) ?_
                refine lv_iload_n hx hb dX0_layFrom_77 rfl (lv_at hl 3 rfl) ?_
                refine lv_iload hx hb dX0_layFrom_78 (lv_at hl 0 rfl) ?_
                refine g_callVU (nA := 3) hC V hl.1 (y_closes l D T y0 a0 6 k57 bv y1 y2 gb an am al ao au a1 a2 a3 a4 a5 a6 a7 a8 a9 a10 (by first | assumption | omega) hgb (by first | assumption | omega) (by first | assumption | omega)) w_810 w_812 w_s32 w_7 w_813 (by decide +kernel) rfl ⟨(Nat.le_of_ble_eq_true rfl), (Nat.le_of_ble_eq_true rfl)⟩ 0 (ci := 0) rfl rfl [0, 2, 3] rfl rfl (Nat.le_of_ble_eq_true rfl) dX0_layFrom_80 ⟨(Nat.le_of_ble_eq_true rfl), (Nat.le_of_ble_eq_true rfl)⟩ rfl (fun r w1 H locs hQ V => ?_)
                rcases hQ with ⟨rfl, rfl⟩ | ⟨rfl, rfl⟩
                · have V : gW D T A s [(y0, .inr (0, [.int bv, .ref y1, .ref y2])), (y1, .inl (T 0, 7, .inl ga)), (y2, .inl (T 0, 7, .inl gb)), (a0, .inr (5, [.int (nI an), .int am, .int al, .int ao, .int au, .ref a1, .ref a2, .ref a3, .ref a4, .ref a5, .ref a6, .ref a7, .ref a8, .ref a9, .ref a10])), (a1, .inl (T 0, 10, .inl af1)), (a2, .inl (T 0, 10, .inl af2))] H locs := V _ [0, 1, 0] rfl rfl rfl (by decide +kernel) rfl
                  show W p l e _ s m args below meth c H locs _ _ _ (F0 m 83 ls [.int (nI 1)])
                  refine lv_if_ne (tgt := 139) hx hb dX0_layFrom_83 (by decide) (fun _ => ?_) (fun c => absurd (show (nI 1) = 0 from c) (by decide +kernel))
                  refine lv_iinc (v := (nI (k57 + 1))) (lv' := [(5, .int (nI (k57 + 1))), (0, .ref y0), (1, .ref a0), (2, .int (nI 6)), (3, .int tk), (4, .int sum)]) hx hb dX0_layFrom_139 hl (k := 0) rfl (nI_1 _) (by decide) rfl (fun ls hl => ?_)
                  refine lv_goto (tgt := 57) hx hb dX0_layFrom_142 (by decide) ?_
                  exact ih_57 (k57 + 1) bv ga gb (by omega) (by assumption) (by omega) _ _ _ V (lv_sub hl [0, 1, 2, 3, 4, 5] rfl)
                · have V : gW D T A s [(y0, .inr (0, [.int bv, .ref y1, .ref y2])), (y1, .inl (T 0, 7, .inl ga)), (y2, .inl (T 0, 7, .inl gb)), (a0, .inr (5, [.int (nI an), .int am, .int al, .int ao, .int au, .ref a1, .ref a2, .ref a3, .ref a4, .ref a5, .ref a6, .ref a7, .ref a8, .ref a9, .ref a10])), (a1, .inl (T 0, 10, .inl af1)), (a2, .inl (T 0, 10, .inl af2))] H locs := V _ [0, 1, 0] rfl rfl rfl (by decide +kernel) rfl
                  show W p l e _ s m args below meth c H locs _ _ _ (F0 m 83 ls [.int (nI 0)])
                  refine lv_if_ne (tgt := 139) hx hb dX0_layFrom_83 (by decide) (fun c => absurd (show (nI 0) = 0 by decide +kernel) c) (fun _ => ?_)
                  refine lv_aload_n hx hb dX0_layFrom_86 rfl (lv_at hl 1 rfl) ?_
                  refine g_get hC V (ci := 0) uwX0 0 rfl rfl 2 (by decide) w_215 rfl rfl dX0_layFrom_87 ?_
                  refine lv_iload_n hx hb dX0_layFrom_90 rfl (lv_at hl 3 rfl) ?_
                  refine lv_iload hx hb dX0_layFrom_91 (lv_at hl 0 rfl) ?_
                  refine g_iast hC V 2 rfl (vp_in_nI (by decide) (by decide)) (f' := (upd gb 6 (nI k57))) (by rw [nI_clamp (by decide)]) (ws' := [(y0, .inr (0, [.int bv, .ref y1, .ref y2])), (y1, .inl (T 0, 7, .inl ga)), (y2, .inl (T 0, 7, .inl (upd gb 6 (nI k57)))), (a0, .inr (5, [.int (nI an), .int am, .int al, .int ao, .int au, .ref a1, .ref a2, .ref a3, .ref a4, .ref a5, .ref a6, .ref a7, .ref a8, .ref a9, .ref a10])), (a1, .inl (T 0, 10, .inl af1)), (a2, .inl (T 0, 10, .inl af2))]) rfl dX0_layFrom_93 (fun H locs V => ?_)
                  refine lv_aload_n hx hb dX0_layFrom_94 rfl (lv_at hl 2 rfl) ?_
                  refine g_get hC V (ci := 5) uwX5 3 rfl rfl 5 (by decide) w_52 rfl rfl dX0_layFrom_95 ?_
                  refine lv_iload_n hx hb dX0_layFrom_98 rfl (lv_at hl 3 rfl) ?_
                  refine g_iald hC V 4 rfl (vp_in_nI (by decide) (by decide)) (v := (af1 6)) (congrArg _ (nI_clamp (by decide))) dX0_layFrom_99 ?_
                  refine lv_aload_n hx hb dX0_layFrom_100 rfl (lv_at hl 2 rfl) ?_
                  refine g_get hC V (ci := 5) uwX5 3 rfl rfl 6 (by decide) w_58 rfl rfl dX0_layFrom_101 ?_
                  refine lv_iload hx hb dX0_layFrom_104 (lv_at hl 0 rfl) ?_
                  refine g_iald hC V 5 rfl (vp_in_nI (by omega) (by omega)) (v := (af2 k57)) (congrArg _ (nI_clamp (by omega))) dX0_layFrom_106 ?_
                  refine lv_isub hx hb dX0_layFrom_107 ?_
                  refine va_mabs hx hb (hml.trans hl.1.symm) hown (hts _ w_814) (hts _ w_815) (hts _ w_10) (hts _ w_816) (Nat.le_of_ble_eq_true rfl) (Nat.le_of_ble_eq_true rfl) (Nat.le_of_ble_eq_true rfl) (Nat.le_of_ble_eq_true rfl) dX0_layFrom_108 ?_
                  refine lv_topi (fun x_16 ex_16 => ?_)
                  refine lv_istore (lv' := [(6, .int x_16), (5, .int (nI k57)), (0, .ref y0), (1, .ref a0), (2, .int (nI 6)), (3, .int tk), (4, .int sum)]) hx hb dX0_layFrom_111 hl (by decide) rfl (fun ls hl => ?_)
                  refine lv_aload_n hx hb dX0_layFrom_113 rfl (lv_at hl 2 rfl) ?_
                  refine lv_aload_n hx hb dX0_layFrom_114 rfl (lv_at hl 3 rfl) ?_
                  refine lv_iload_n hx hb dX0_layFrom_115 rfl (lv_at hl 4 rfl) ?_
                  refine lv_iconst (v := (nI 1)) hx hb dX0_layFrom_116 (by decide +kernel) ?_
                  refine lv_iadd hx hb dX0_layFrom_117 ?_
                  refine g_vi (y := (nI 7)) (by decide +kernel) ?_
                  refine lv_iload_n hx hb dX0_layFrom_118 rfl (lv_at hl 5 rfl) ?_
                  refine lv_iconst (v := (nI 1)) hx hb dX0_layFrom_119 (by decide +kernel) ?_
                  refine lv_iload hx hb dX0_layFrom_120 (lv_at hl 1 rfl) ?_
                  refine lv_ishl hx hb dX0_layFrom_122 ?_
                  refine lv_ior hx hb dX0_layFrom_123 ?_
                  refine lv_iload hx hb dX0_layFrom_124 (lv_at hl 6 rfl) ?_
                  refine lv_iload hx hb dX0_layFrom_126 (lv_at hl 0 rfl) ?_
                  refine lv_iadd hx hb dX0_layFrom_128 ?_
                  refine g_callV (wr := []) (nA := 4) hC V hl.1 (y_lay7 l D T y0 a0 (tk ||| ((nI 1) <<< ((nI k57) &&& 31))) (sum + x_16) bv y1 y2 ga (upd gb 6 (nI k57)) an am al ao au a1 a2 a3 a4 a5 a6 a7 a8 a9 a10 af1 af2 (by first | assumption | omega) (up_all (p := fun x => x = -1 ∨ bd x 7) hgb (fun _ => Or.inr (bd_nI (by omega))))) w_804 w_806 w_s31 w_7 w_807 (by decide +kernel) rfl ⟨(Nat.le_of_ble_eq_true rfl), (Nat.le_of_ble_eq_true rfl)⟩ 0 (ci := 0) rfl rfl [0, 1, 2, 3, 4, 5] [] rfl rfl rfl rfl (by decide) (Nat.le_of_ble_eq_true rfl) dX0_layFrom_129 ⟨(Nat.le_of_ble_eq_true rfl), (Nat.le_of_ble_eq_true rfl)⟩ rfl (fun r w1 H locs hQ V => ?_)
                  obtain ⟨bs_17, g1_18, g2_19, rfl, rfl, f_20⟩ := hQ
                  have V : gW D T A s [(y0, .inr (0, [.int bs_17, .ref y1, .ref y2])), (y1, .inl (T 0, 7, .inl g1_18)), (y2, .inl (T 0, 7, .inl g2_19)), (a0, .inr (5, [.int (nI an), .int am, .int al, .int ao, .int au, .ref a1, .ref a2, .ref a3, .ref a4, .ref a5, .ref a6, .ref a7, .ref a8, .ref a9, .ref a10])), (a1, .inl (T 0, 10, .inl af1)), (a2, .inl (T 0, 10, .inl af2))] H locs := V
                  show W p l e _ s m args below meth c H locs _ _ _ (F0 m 132 ls [])
                  have hq := up_all (p := fun x => x = -1 ∨ bd x 7) (k := 6) (x := -1) f_20 (fun _ => Or.inl rfl)
                  refine lv_aload_n hx hb dX0_layFrom_132 rfl (lv_at hl 2 rfl) ?_
                  refine g_get hC V (ci := 0) uwX0 0 rfl rfl 2 (by decide) w_215 rfl rfl dX0_layFrom_133 ?_
                  refine lv_iload_n hx hb dX0_layFrom_136 rfl (lv_at hl 4 rfl) ?_
                  refine lv_iconst (v := (-1)) hx hb dX0_layFrom_137 (by decide +kernel) ?_
                  refine g_iast hC V 2 rfl (vp_in_nI (by decide) (by decide)) (f' := (upd g2_19 6 (-1))) (by rw [nI_clamp (by decide)]) (ws' := [(y0, .inr (0, [.int bs_17, .ref y1, .ref y2])), (y1, .inl (T 0, 7, .inl g1_18)), (y2, .inl (T 0, 7, .inl (upd g2_19 6 (-1)))), (a0, .inr (5, [.int (nI an), .int am, .int al, .int ao, .int au, .ref a1, .ref a2, .ref a3, .ref a4, .ref a5, .ref a6, .ref a7, .ref a8, .ref a9, .ref a10])), (a1, .inl (T 0, 10, .inl af1)), (a2, .inl (T 0, 10, .inl af2))]) rfl dX0_layFrom_138 (fun H locs V => ?_)
                  refine lv_iinc (v := (nI (k57 + 1))) (lv' := [(5, .int (nI (k57 + 1))), (6, .int x_16), (0, .ref y0), (1, .ref a0), (2, .int (nI 6)), (3, .int tk), (4, .int sum)]) hx hb dX0_layFrom_139 hl (k := 1) rfl (nI_1 _) (by decide) rfl (fun ls hl => ?_)
                  refine lv_goto (tgt := 57) hx hb dX0_layFrom_142 (by decide) ?_
                  exact ih_57 (k57 + 1) bs_17 g1_18 (upd g2_19 6 (-1)) (by omega) (by assumption) (by omega) _ _ _ V (lv_sub hl [0, 2, 3, 4, 5, 6] rfl)
        exact L_14 _ 0 ys yb yt (by omega) h_yt (Nat.lt_succ_self _) _ _ _ V (lv_sub hl [0, 1, 2, 3, 4, 5] rfl)
    · skip
      exact g_vret (Qr := (q_y_lay6 T y0 a0 tk sum ys y1 y2 yb yt an am al ao au a1 a2 a3 a4 a5 a6 a7 a8 a9 a10 af1 af2)) hC V ⟨(Nat.le_of_ble_eq_true rfl), (Nat.le_of_ble_eq_true rfl)⟩ ⟨ys, yb, yt, rfl, rfl, (by first | assumption | omega)⟩ dX0_layFrom_17

def q_y_lay5 (T : Nat → ClassId) (y0 : Nat) (a0 : Nat) (tk : Int32) (sum : Int32) (ys : Int32) (y1 : Nat) (y2 : Nat) (yb : Nat → Int32) (yt : Nat → Int32) (an : Nat) (am : Int32) (al : Int32) (ao : Int32) (au : Int32) (a1 : Nat) (a2 : Nat) (a3 : Nat) (a4 : Nat) (a5 : Nat) (a6 : Nat) (a7 : Nat) (a8 : Nat) (a9 : Nat) (a10 : Nat) (af1 : Nat → Int32) (af2 : Nat → Int32) : Option Value → va_W → Prop := fun rr ww => (∃ (bs : Int32) (g1 : Nat → Int32) (g2 : Nat → Int32), rr = none ∧ ww = [(y0, .inr (0, [.int bs, .ref y1, .ref y2])), (y1, .inl (T 0, 7, .inl g1)), (y2, .inl (T 0, 7, .inl g2)), (a0, .inr (5, [.int (nI an), .int am, .int al, .int ao, .int au, .ref a1, .ref a2, .ref a3, .ref a4, .ref a5, .ref a6, .ref a7, .ref a8, .ref a9, .ref a10])), (a1, .inl (T 0, 10, .inl af1)), (a2, .inl (T 0, 10, .inl af2))] ∧ (∀ i, i < 7 → (g2 i = -1 ∨ bd (g2 i) 7)))
set_option maxHeartbeats 4000000 in
set_option maxRecDepth 100000 in
theorem y_lay5 (l : Launch) (D : va_G) (T : Nat → ClassId) (y0 : Nat) (a0 : Nat) (tk : Int32) (sum : Int32) (ys : Int32) (y1 : Nat) (y2 : Nat) (yb : Nat → Int32) (yt : Nat → Int32) (an : Nat) (am : Int32) (al : Int32) (ao : Int32) (au : Int32) (a1 : Nat) (a2 : Nat) (a3 : Nat) (a4 : Nat) (a5 : Nat) (a6 : Nat) (a7 : Nat) (a8 : Nat) (a9 : Nat) (a10 : Nat) (af1 : Nat → Int32) (af2 : Nat → Int32) (h_n : an ≤ 7) (h_yt : ∀ i, i < 7 → (yt i = -1 ∨ bd (yt i) 7)) : Ct l yX0_layFrom cX0_layFrom 7 none 4 0 0 D T [.ref y0, .ref a0, .int (nI 5), .int tk, .int sum] [(y0, .inr (0, [.int ys, .ref y1, .ref y2])), (y1, .inl (T 0, 7, .inl yb)), (y2, .inl (T 0, 7, .inl yt)), (a0, .inr (5, [.int (nI an), .int am, .int al, .int ao, .int au, .ref a1, .ref a2, .ref a3, .ref a4, .ref a5, .ref a6, .ref a7, .ref a8, .ref a9, .ref a10])), (a1, .inl (T 0, 10, .inl af1)), (a2, .inl (T 0, 10, .inl af2))] (q_y_lay5 T y0 a0 tk sum ys y1 y2 yb yt an am al ao au a1 a2 a3 a4 a5 a6 a7 a8 a9 a10 af1 af2) := by
  refine Ct.of (cc := cX0_layFrom) (maxL := 7) (ret := none) (by decide) (Nat.le_of_ble_eq_true rfl) ?_
  intro p e s m args below meth c A ls hC hnm V hl
  obtain ⟨hx, hb, hr, hml, hown, hts, hlocks⟩ := id hC
  generalize hH : s.heap = H at V ⊢
  clear hH
  have hl : lv_has ls 7 [(0, .ref y0), (1, .ref a0), (2, .int (nI 5)), (3, .int tk), (4, .int sum)] := hl
  generalize hlo : ([] : List Loc) = locs at V ⊢
  clear hlo
  refine lv_aload_n hx hb dX0_layFrom_0 rfl (lv_at hl 0 rfl) ?_
  refine g_get hC V (ci := 0) uwX0 0 rfl rfl 0 (by decide) w_211 rfl rfl dX0_layFrom_1 ?_
  refine lv_iconst (v := (-1)) hx hb dX0_layFrom_4 (by decide +kernel) ?_
  refine lv_icmp_eq (tgt := 18) hx hb dX0_layFrom_5 (by decide) (fun c_1 => ?_) (fun c_1 => ?_)
  · skip
    refine lv_iload_n hx hb dX0_layFrom_18 rfl (lv_at hl 2 rfl) ?_
    refine lv_aload_n hx hb dX0_layFrom_19 rfl (lv_at hl 1 rfl) ?_
    refine g_get hC V (ci := 5) uwX5 3 rfl rfl 0 (by decide) w_35 rfl rfl dX0_layFrom_20 ?_
    refine lv_icmp_ge (tgt := 32) hx hb dX0_layFrom_23 (by decide) (fun c_2 => ?_) (fun c_2 => ?_)
    · skip
      have c_2 := b_le (by omega) (by omega) c_2
      refine lv_aload_n hx hb dX0_layFrom_32 rfl (lv_at hl 0 rfl) ?_
      refine lv_iload hx hb dX0_layFrom_33 (lv_at hl 4 rfl) ?_
      refine g_put hC V (ci := 0) uwX0 tyX0 tyX0_ok nmX0 0 rfl rfl 0 (by decide) w_211 rfl rfl rfl rfl (Nat.le_of_ble_eq_true rfl) (ws' := [(y0, .inr (0, [.int sum, .ref y1, .ref y2])), (y1, .inl (T 0, 7, .inl yb)), (y2, .inl (T 0, 7, .inl yt)), (a0, .inr (5, [.int (nI an), .int am, .int al, .int ao, .int au, .ref a1, .ref a2, .ref a3, .ref a4, .ref a5, .ref a6, .ref a7, .ref a8, .ref a9, .ref a10])), (a1, .inl (T 0, 10, .inl af1)), (a2, .inl (T 0, 10, .inl af2))]) rfl dX0_layFrom_35 (fun H locs V => ?_)
      refine lv_aload_n hx hb dX0_layFrom_38 rfl (lv_at hl 0 rfl) ?_
      refine g_get hC V (ci := 0) uwX0 0 rfl rfl 2 (by decide) w_215 rfl rfl dX0_layFrom_39 ?_
      refine lv_iconst (v := (nI 0)) hx hb dX0_layFrom_42 (by decide +kernel) ?_
      refine lv_aload_n hx hb dX0_layFrom_43 rfl (lv_at hl 0 rfl) ?_
      refine g_get hC V (ci := 0) uwX0 0 rfl rfl 1 (by decide) w_213 rfl rfl dX0_layFrom_44 ?_
      refine lv_iconst (v := (nI 0)) hx hb dX0_layFrom_47 (by decide +kernel) ?_
      refine lv_bipush (v := (nI 7)) hx hb dX0_layFrom_48 (by decide +kernel) ?_
      refine g_copyi hC V hl.1 w_808 w_672 w_671 w_17 2 1 rfl rfl (by decide +kernel) (by decide +kernel) (Nat.le_of_ble_eq_true rfl) (Nat.le_of_ble_eq_true rfl) (Nat.le_of_ble_eq_true rfl) dX0_layFrom_50 (fun g_3 H locs V => ?_)
      have V : gW D T A s [(y0, .inr (0, [.int sum, .ref y1, .ref y2])), (y1, .inl (T 0, 7, .inl g_3)), (y2, .inl (T 0, 7, .inl yt)), (a0, .inr (5, [.int (nI an), .int am, .int al, .int ao, .int au, .ref a1, .ref a2, .ref a3, .ref a4, .ref a5, .ref a6, .ref a7, .ref a8, .ref a9, .ref a10])), (a1, .inl (T 0, 10, .inl af1)), (a2, .inl (T 0, 10, .inl af2))] H locs := V
      exact g_vret (Qr := (q_y_lay5 T y0 a0 tk sum ys y1 y2 yb yt an am al ao au a1 a2 a3 a4 a5 a6 a7 a8 a9 a10 af1 af2)) hC V ⟨(Nat.le_of_ble_eq_true rfl), (Nat.le_of_ble_eq_true rfl)⟩ ⟨sum, g_3, yt, rfl, rfl, (by first | assumption | omega)⟩ dX0_layFrom_53
    · skip
      have c_2 := b_nle (by omega) (by omega) c_2
      refine lv_iload_n hx hb dX0_layFrom_26 rfl (lv_at hl 2 rfl) ?_
      refine lv_bipush (v := (nI 7)) hx hb dX0_layFrom_27 (by decide +kernel) ?_
      refine lv_icmp_lt (tgt := 54) hx hb dX0_layFrom_29 (by decide) (fun _ => ?_) (fun c => absurd (show (nI 5) < (nI 7) by first | rfl | decide +kernel) c)
      refine lv_iconst (v := (nI 0)) hx hb dX0_layFrom_54 (by decide +kernel) ?_
      refine lv_istore (lv' := [(5, .int (nI 0)), (0, .ref y0), (1, .ref a0), (2, .int (nI 5)), (3, .int tk), (4, .int sum)]) hx hb dX0_layFrom_55 hl (by decide) rfl (fun ls hl => ?_)
      have L_4 : ∀ (fu : Nat) (k57 : Nat) (bv : Int32) (ga : Nat → Int32) (gb : Nat → Int32), k57 ≤ an → (∀ i, i < 7 → (gb i = -1 ∨ bd (gb i) 7)) → an - k57 < fu → ∀ (H : Heap) (locs : List Loc) (ls : Array Slot), gW D T A s [(y0, .inr (0, [.int bv, .ref y1, .ref y2])), (y1, .inl (T 0, 7, .inl ga)), (y2, .inl (T 0, 7, .inl gb)), (a0, .inr (5, [.int (nI an), .int am, .int al, .int ao, .int au, .ref a1, .ref a2, .ref a3, .ref a4, .ref a5, .ref a6, .ref a7, .ref a8, .ref a9, .ref a10])), (a1, .inl (T 0, 10, .inl af1)), (a2, .inl (T 0, 10, .inl af2))] H locs → lv_has ls 7 [(5, .int (nI k57)), (0, .ref y0), (1, .ref a0), (2, .int (nI 5)), (3, .int tk), (4, .int sum)] → W p l e (rmD 4 0 0) s m args below meth c H locs 0 0 (MQ below (gQ D A (q_y_lay5 T y0 a0 tk sum ys y1 y2 yb yt an am al ao au a1 a2 a3 a4 a5 a6 a7 a8 a9 a10 af1 af2)) args s 0 0 A) (F0 m 57 ls []) := by
        intro fu_57
        induction fu_57 with
        | zero => intro k57 bv ga gb hk57 hgb hmu; exact absurd hmu (Nat.not_lt_zero _)
        | succ fu_57 ih_57 =>
          intro k57 bv ga gb hk57 hgb hmu_57 H locs ls V hl
          refine lv_iload hx hb dX0_layFrom_57 (lv_at hl 0 rfl) ?_
          refine lv_aload_n hx hb dX0_layFrom_59 rfl (lv_at hl 2 rfl) ?_
          refine g_get hC V (ci := 5) uwX5 3 rfl rfl 0 (by decide) w_35 rfl rfl dX0_layFrom_60 ?_
          refine lv_icmp_ge (tgt := 145) hx hb dX0_layFrom_63 (by decide) (fun c_5 => ?_) (fun c_5 => ?_)
          · skip
            have c_5 := b_le (by omega) (by omega) c_5
            exact g_vret (Qr := (q_y_lay5 T y0 a0 tk sum ys y1 y2 yb yt an am al ao au a1 a2 a3 a4 a5 a6 a7 a8 a9 a10 af1 af2)) hC V ⟨(Nat.le_of_ble_eq_true rfl), (Nat.le_of_ble_eq_true rfl)⟩ ⟨bv, ga, gb, rfl, rfl, (by first | assumption | omega)⟩ dX0_layFrom_145
          · skip
            have c_5 := b_nle (by omega) (by omega) c_5
            refine lv_iload_n hx hb dX0_layFrom_66 rfl (lv_at hl 4 rfl) ?_
            refine lv_iload hx hb dX0_layFrom_67 (lv_at hl 0 rfl) ?_
            refine g_callSNU (nA := 2) (host := RX7) hC V hl.1 (c_isIn l D T tk (nI k57)) w_472 (List.mem_of_getElem? (i := 7) rfl) w_2 w_471 (by decide +kernel) rfl ⟨(Nat.le_of_ble_eq_true rfl), (Nat.le_of_ble_eq_true rfl)⟩ [] rfl rfl (Nat.le_of_ble_eq_true rfl) dX0_layFrom_69 ⟨(Nat.le_of_ble_eq_true rfl), (Nat.le_of_ble_eq_true rfl)⟩ rfl (fun r w1 H locs hQ V => ?_)
            rcases hQ with ⟨rfl, rfl⟩ | ⟨rfl, rfl⟩
            · have V : gW D T A s [(y0, .inr (0, [.int bv, .ref y1, .ref y2])), (y1, .inl (T 0, 7, .inl ga)), (y2, .inl (T 0, 7, .inl gb)), (a0, .inr (5, [.int (nI an), .int am, .int al, .int ao, .int au, .ref a1, .ref a2, .ref a3, .ref a4, .ref a5, .ref a6, .ref a7, .ref a8, .ref a9, .ref a10])), (a1, .inl (T 0, 10, .inl af1)), (a2, .inl (T 0, 10, .inl af2))] H locs := V _ [] rfl rfl rfl (by decide +kernel) rfl
              show W p l e _ s m args below meth c H locs _ _ _ (F0 m 72 ls [.int (nI 1)])
              refine lv_if_ne (tgt := 139) hx hb dX0_layFrom_72 (by decide) (fun _ => ?_) (fun c => absurd (show (nI 1) = 0 from c) (by decide +kernel))
              refine lv_iinc (v := (nI (k57 + 1))) (lv' := [(5, .int (nI (k57 + 1))), (0, .ref y0), (1, .ref a0), (2, .int (nI 5)), (3, .int tk), (4, .int sum)]) hx hb dX0_layFrom_139 hl (k := 0) rfl (nI_1 _) (by decide) rfl (fun ls hl => ?_)
              refine lv_goto (tgt := 57) hx hb dX0_layFrom_142 (by decide) ?_
              exact ih_57 (k57 + 1) bv ga gb (by omega) (by assumption) (by omega) _ _ _ V (lv_sub hl [0, 1, 2, 3, 4, 5] rfl)
            · have V : gW D T A s [(y0, .inr (0, [.int bv, .ref y1, .ref y2])), (y1, .inl (T 0, 7, .inl ga)), (y2, .inl (T 0, 7, .inl gb)), (a0, .inr (5, [.int (nI an), .int am, .int al, .int ao, .int au, .ref a1, .ref a2, .ref a3, .ref a4, .ref a5, .ref a6, .ref a7, .ref a8, .ref a9, .ref a10])), (a1, .inl (T 0, 10, .inl af1)), (a2, .inl (T 0, 10, .inl af2))] H locs := V _ [] rfl rfl rfl (by decide +kernel) rfl
              show W p l e _ s m args below meth c H locs _ _ _ (F0 m 72 ls [.int (nI 0)])
              refine lv_if_ne (tgt := 139) hx hb dX0_layFrom_72 (by decide) (fun c => absurd (show (nI 0) = 0 by decide +kernel) c) (fun _ => ?_)
              refine lv_aload_n hx hb dX0_layFrom_75 rfl (lv_at hl 1 rfl) ?_
              refine lv_aload_n hx hb dX0_layFrom_76 rfl (lv_at hl 2 rfl) ?_
              refine lv_iload_n hx hb dX0_layFrom_77 rfl (lv_at hl 3 rfl) ?_
              refine lv_iload hx hb dX0_layFrom_78 (lv_at hl 0 rfl) ?_
              refine g_callVU (nA := 3) hC V hl.1 (y_closes l D T y0 a0 5 k57 bv y1 y2 gb an am al ao au a1 a2 a3 a4 a5 a6 a7 a8 a9 a10 (by first | assumption | omega) hgb (by first | assumption | omega) (by first | assumption | omega)) w_810 w_812 w_s32 w_7 w_813 (by decide +kernel) rfl ⟨(Nat.le_of_ble_eq_true rfl), (Nat.le_of_ble_eq_true rfl)⟩ 0 (ci := 0) rfl rfl [0, 2, 3] rfl rfl (Nat.le_of_ble_eq_true rfl) dX0_layFrom_80 ⟨(Nat.le_of_ble_eq_true rfl), (Nat.le_of_ble_eq_true rfl)⟩ rfl (fun r w1 H locs hQ V => ?_)
              rcases hQ with ⟨rfl, rfl⟩ | ⟨rfl, rfl⟩
              · have V : gW D T A s [(y0, .inr (0, [.int bv, .ref y1, .ref y2])), (y1, .inl (T 0, 7, .inl ga)), (y2, .inl (T 0, 7, .inl gb)), (a0, .inr (5, [.int (nI an), .int am, .int al, .int ao, .int au, .ref a1, .ref a2, .ref a3, .ref a4, .ref a5, .ref a6, .ref a7, .ref a8, .ref a9, .ref a10])), (a1, .inl (T 0, 10, .inl af1)), (a2, .inl (T 0, 10, .inl af2))] H locs := V _ [0, 1, 0] rfl rfl rfl (by decide +kernel) rfl
                show W p l e _ s m args below meth c H locs _ _ _ (F0 m 83 ls [.int (nI 1)])
                refine lv_if_ne (tgt := 139) hx hb dX0_layFrom_83 (by decide) (fun _ => ?_) (fun c => absurd (show (nI 1) = 0 from c) (by decide +kernel))
                refine lv_iinc (v := (nI (k57 + 1))) (lv' := [(5, .int (nI (k57 + 1))), (0, .ref y0), (1, .ref a0), (2, .int (nI 5)), (3, .int tk), (4, .int sum)]) hx hb dX0_layFrom_139 hl (k := 0) rfl (nI_1 _) (by decide) rfl (fun ls hl => ?_)
                refine lv_goto (tgt := 57) hx hb dX0_layFrom_142 (by decide) ?_
                exact ih_57 (k57 + 1) bv ga gb (by omega) (by assumption) (by omega) _ _ _ V (lv_sub hl [0, 1, 2, 3, 4, 5] rfl)
              · have V : gW D T A s [(y0, .inr (0, [.int bv, .ref y1, .ref y2])), (y1, .inl (T 0, 7, .inl ga)), (y2, .inl (T 0, 7, .inl gb)), (a0, .inr (5, [.int (nI an), .int am, .int al, .int ao, .int au, .ref a1, .ref a2, .ref a3, .ref a4, .ref a5, .ref a6, .ref a7, .ref a8, .ref a9, .ref a10])), (a1, .inl (T 0, 10, .inl af1)), (a2, .inl (T 0, 10, .inl af2))] H locs := V _ [0, 1, 0] rfl rfl rfl (by decide +kernel) rfl
                show W p l e _ s m args below meth c H locs _ _ _ (F0 m 83 ls [.int (nI 0)])
                refine lv_if_ne (tgt := 139) hx hb dX0_layFrom_83 (by decide) (fun c => absurd (show (nI 0) = 0 by decide +kernel) c) (fun _ => ?_)
                refine lv_aload_n hx hb dX0_layFrom_86 rfl (lv_at hl 1 rfl) ?_
                refine g_get hC V (ci := 0) uwX0 0 rfl rfl 2 (by decide) w_215 rfl rfl dX0_layFrom_87 ?_
                refine lv_iload_n hx hb dX0_layFrom_90 rfl (lv_at hl 3 rfl) ?_
                refine lv_iload hx hb dX0_layFrom_91 (lv_at hl 0 rfl) ?_
                refine g_iast hC V 2 rfl (vp_in_nI (by decide) (by decide)) (f' := (upd gb 5 (nI k57))) (by rw [nI_clamp (by decide)]) (ws' := [(y0, .inr (0, [.int bv, .ref y1, .ref y2])), (y1, .inl (T 0, 7, .inl ga)), (y2, .inl (T 0, 7, .inl (upd gb 5 (nI k57)))), (a0, .inr (5, [.int (nI an), .int am, .int al, .int ao, .int au, .ref a1, .ref a2, .ref a3, .ref a4, .ref a5, .ref a6, .ref a7, .ref a8, .ref a9, .ref a10])), (a1, .inl (T 0, 10, .inl af1)), (a2, .inl (T 0, 10, .inl af2))]) rfl dX0_layFrom_93 (fun H locs V => ?_)
                refine lv_aload_n hx hb dX0_layFrom_94 rfl (lv_at hl 2 rfl) ?_
                refine g_get hC V (ci := 5) uwX5 3 rfl rfl 5 (by decide) w_52 rfl rfl dX0_layFrom_95 ?_
                refine lv_iload_n hx hb dX0_layFrom_98 rfl (lv_at hl 3 rfl) ?_
                refine g_iald hC V 4 rfl (vp_in_nI (by decide) (by decide)) (v := (af1 5)) (congrArg _ (nI_clamp (by decide))) dX0_layFrom_99 ?_
                refine lv_aload_n hx hb dX0_layFrom_100 rfl (lv_at hl 2 rfl) ?_
                refine g_get hC V (ci := 5) uwX5 3 rfl rfl 6 (by decide) w_58 rfl rfl dX0_layFrom_101 ?_
                refine lv_iload hx hb dX0_layFrom_104 (lv_at hl 0 rfl) ?_
                refine g_iald hC V 5 rfl (vp_in_nI (by omega) (by omega)) (v := (af2 k57)) (congrArg _ (nI_clamp (by omega))) dX0_layFrom_106 ?_
                refine lv_isub hx hb dX0_layFrom_107 ?_
                refine va_mabs hx hb (hml.trans hl.1.symm) hown (hts _ w_814) (hts _ w_815) (hts _ w_10) (hts _ w_816) (Nat.le_of_ble_eq_true rfl) (Nat.le_of_ble_eq_true rfl) (Nat.le_of_ble_eq_true rfl) (Nat.le_of_ble_eq_true rfl) dX0_layFrom_108 ?_
                refine lv_topi (fun x_6 ex_6 => ?_)
                refine lv_istore (lv' := [(6, .int x_6), (5, .int (nI k57)), (0, .ref y0), (1, .ref a0), (2, .int (nI 5)), (3, .int tk), (4, .int sum)]) hx hb dX0_layFrom_111 hl (by decide) rfl (fun ls hl => ?_)
                refine lv_aload_n hx hb dX0_layFrom_113 rfl (lv_at hl 2 rfl) ?_
                refine lv_aload_n hx hb dX0_layFrom_114 rfl (lv_at hl 3 rfl) ?_
                refine lv_iload_n hx hb dX0_layFrom_115 rfl (lv_at hl 4 rfl) ?_
                refine lv_iconst (v := (nI 1)) hx hb dX0_layFrom_116 (by decide +kernel) ?_
                refine lv_iadd hx hb dX0_layFrom_117 ?_
                refine g_vi (y := (nI 6)) (by decide +kernel) ?_
                refine lv_iload_n hx hb dX0_layFrom_118 rfl (lv_at hl 5 rfl) ?_
                refine lv_iconst (v := (nI 1)) hx hb dX0_layFrom_119 (by decide +kernel) ?_
                refine lv_iload hx hb dX0_layFrom_120 (lv_at hl 1 rfl) ?_
                refine lv_ishl hx hb dX0_layFrom_122 ?_
                refine lv_ior hx hb dX0_layFrom_123 ?_
                refine lv_iload hx hb dX0_layFrom_124 (lv_at hl 6 rfl) ?_
                refine lv_iload hx hb dX0_layFrom_126 (lv_at hl 0 rfl) ?_
                refine lv_iadd hx hb dX0_layFrom_128 ?_
                refine g_callV (wr := []) (nA := 4) hC V hl.1 (y_lay6 l D T y0 a0 (tk ||| ((nI 1) <<< ((nI k57) &&& 31))) (sum + x_6) bv y1 y2 ga (upd gb 5 (nI k57)) an am al ao au a1 a2 a3 a4 a5 a6 a7 a8 a9 a10 af1 af2 (by first | assumption | omega) (up_all (p := fun x => x = -1 ∨ bd x 7) hgb (fun _ => Or.inr (bd_nI (by omega))))) w_804 w_806 w_s31 w_7 w_807 (by decide +kernel) rfl ⟨(Nat.le_of_ble_eq_true rfl), (Nat.le_of_ble_eq_true rfl)⟩ 0 (ci := 0) rfl rfl [0, 1, 2, 3, 4, 5] [] rfl rfl rfl rfl (by decide) (Nat.le_of_ble_eq_true rfl) dX0_layFrom_129 ⟨(Nat.le_of_ble_eq_true rfl), (Nat.le_of_ble_eq_true rfl)⟩ rfl (fun r w1 H locs hQ V => ?_)
                obtain ⟨bs_7, g1_8, g2_9, rfl, rfl, f_10⟩ := hQ
                have V : gW D T A s [(y0, .inr (0, [.int bs_7, .ref y1, .ref y2])), (y1, .inl (T 0, 7, .inl g1_8)), (y2, .inl (T 0, 7, .inl g2_9)), (a0, .inr (5, [.int (nI an), .int am, .int al, .int ao, .int au, .ref a1, .ref a2, .ref a3, .ref a4, .ref a5, .ref a6, .ref a7, .ref a8, .ref a9, .ref a10])), (a1, .inl (T 0, 10, .inl af1)), (a2, .inl (T 0, 10, .inl af2))] H locs := V
                show W p l e _ s m args below meth c H locs _ _ _ (F0 m 132 ls [])
                have hq := up_all (p := fun x => x = -1 ∨ bd x 7) (k := 5) (x := -1) f_10 (fun _ => Or.inl rfl)
                refine lv_aload_n hx hb dX0_layFrom_132 rfl (lv_at hl 2 rfl) ?_
                refine g_get hC V (ci := 0) uwX0 0 rfl rfl 2 (by decide) w_215 rfl rfl dX0_layFrom_133 ?_
                refine lv_iload_n hx hb dX0_layFrom_136 rfl (lv_at hl 4 rfl) ?_
                refine lv_iconst (v := (-1)) hx hb dX0_layFrom_137 (by decide +kernel) ?_
                refine g_iast hC V 2 rfl (vp_in_nI (by decide) (by decide)) (f' := (upd g2_9 5 (-1))) (by rw [nI_clamp (by decide)]) (ws' := [(y0, .inr (0, [.int bs_7, .ref y1, .ref y2])), (y1, .inl (T 0, 7, .inl g1_8)), (y2, .inl (T 0, 7, .inl (upd g2_9 5 (-1)))), (a0, .inr (5, [.int (nI an), .int am, .int al, .int ao, .int au, .ref a1, .ref a2, .ref a3, .ref a4, .ref a5, .ref a6, .ref a7, .ref a8, .ref a9, .ref a10])), (a1, .inl (T 0, 10, .inl af1)), (a2, .inl (T 0, 10, .inl af2))]) rfl dX0_layFrom_138 (fun H locs V => ?_)
                refine lv_iinc (v := (nI (k57 + 1))) (lv' := [(5, .int (nI (k57 + 1))), (6, .int x_6), (0, .ref y0), (1, .ref a0), (2, .int (nI 5)), (3, .int tk), (4, .int sum)]) hx hb dX0_layFrom_139 hl (k := 1) rfl (nI_1 _) (by decide) rfl (fun ls hl => ?_)
                refine lv_goto (tgt := 57) hx hb dX0_layFrom_142 (by decide) ?_
                exact ih_57 (k57 + 1) bs_7 g1_8 (upd g2_9 5 (-1)) (by omega) (by assumption) (by omega) _ _ _ V (lv_sub hl [0, 2, 3, 4, 5, 6] rfl)
      exact L_4 _ 0 ys yb yt (by omega) h_yt (Nat.lt_succ_self _) _ _ _ V (lv_sub hl [0, 1, 2, 3, 4, 5] rfl)
  · skip
    refine lv_iload hx hb dX0_layFrom_8 (lv_at hl 4 rfl) ?_
    refine lv_aload_n hx hb dX0_layFrom_10 rfl (lv_at hl 0 rfl) ?_
    refine g_get hC V (ci := 0) uwX0 0 rfl rfl 0 (by decide) w_211 rfl rfl dX0_layFrom_11 ?_
    refine lv_icmp_lt (tgt := 18) hx hb dX0_layFrom_14 (by decide) (fun c_11 => ?_) (fun c_11 => ?_)
    · skip
      refine lv_iload_n hx hb dX0_layFrom_18 rfl (lv_at hl 2 rfl) ?_
      refine lv_aload_n hx hb dX0_layFrom_19 rfl (lv_at hl 1 rfl) ?_
      refine g_get hC V (ci := 5) uwX5 3 rfl rfl 0 (by decide) w_35 rfl rfl dX0_layFrom_20 ?_
      refine lv_icmp_ge (tgt := 32) hx hb dX0_layFrom_23 (by decide) (fun c_12 => ?_) (fun c_12 => ?_)
      · skip
        have c_12 := b_le (by omega) (by omega) c_12
        refine lv_aload_n hx hb dX0_layFrom_32 rfl (lv_at hl 0 rfl) ?_
        refine lv_iload hx hb dX0_layFrom_33 (lv_at hl 4 rfl) ?_
        refine g_put hC V (ci := 0) uwX0 tyX0 tyX0_ok nmX0 0 rfl rfl 0 (by decide) w_211 rfl rfl rfl rfl (Nat.le_of_ble_eq_true rfl) (ws' := [(y0, .inr (0, [.int sum, .ref y1, .ref y2])), (y1, .inl (T 0, 7, .inl yb)), (y2, .inl (T 0, 7, .inl yt)), (a0, .inr (5, [.int (nI an), .int am, .int al, .int ao, .int au, .ref a1, .ref a2, .ref a3, .ref a4, .ref a5, .ref a6, .ref a7, .ref a8, .ref a9, .ref a10])), (a1, .inl (T 0, 10, .inl af1)), (a2, .inl (T 0, 10, .inl af2))]) rfl dX0_layFrom_35 (fun H locs V => ?_)
        refine lv_aload_n hx hb dX0_layFrom_38 rfl (lv_at hl 0 rfl) ?_
        refine g_get hC V (ci := 0) uwX0 0 rfl rfl 2 (by decide) w_215 rfl rfl dX0_layFrom_39 ?_
        refine lv_iconst (v := (nI 0)) hx hb dX0_layFrom_42 (by decide +kernel) ?_
        refine lv_aload_n hx hb dX0_layFrom_43 rfl (lv_at hl 0 rfl) ?_
        refine g_get hC V (ci := 0) uwX0 0 rfl rfl 1 (by decide) w_213 rfl rfl dX0_layFrom_44 ?_
        refine lv_iconst (v := (nI 0)) hx hb dX0_layFrom_47 (by decide +kernel) ?_
        refine lv_bipush (v := (nI 7)) hx hb dX0_layFrom_48 (by decide +kernel) ?_
        refine g_copyi hC V hl.1 w_808 w_672 w_671 w_17 2 1 rfl rfl (by decide +kernel) (by decide +kernel) (Nat.le_of_ble_eq_true rfl) (Nat.le_of_ble_eq_true rfl) (Nat.le_of_ble_eq_true rfl) dX0_layFrom_50 (fun g_13 H locs V => ?_)
        have V : gW D T A s [(y0, .inr (0, [.int sum, .ref y1, .ref y2])), (y1, .inl (T 0, 7, .inl g_13)), (y2, .inl (T 0, 7, .inl yt)), (a0, .inr (5, [.int (nI an), .int am, .int al, .int ao, .int au, .ref a1, .ref a2, .ref a3, .ref a4, .ref a5, .ref a6, .ref a7, .ref a8, .ref a9, .ref a10])), (a1, .inl (T 0, 10, .inl af1)), (a2, .inl (T 0, 10, .inl af2))] H locs := V
        exact g_vret (Qr := (q_y_lay5 T y0 a0 tk sum ys y1 y2 yb yt an am al ao au a1 a2 a3 a4 a5 a6 a7 a8 a9 a10 af1 af2)) hC V ⟨(Nat.le_of_ble_eq_true rfl), (Nat.le_of_ble_eq_true rfl)⟩ ⟨sum, g_13, yt, rfl, rfl, (by first | assumption | omega)⟩ dX0_layFrom_53
      · skip
        have c_12 := b_nle (by omega) (by omega) c_12
        refine lv_iload_n hx hb dX0_layFrom_26 rfl (lv_at hl 2 rfl) ?_
        refine lv_bipush (v := (nI 7)) hx hb dX0_layFrom_27 (by decide +kernel) ?_
        refine lv_icmp_lt (tgt := 54) hx hb dX0_layFrom_29 (by decide) (fun _ => ?_) (fun c => absurd (show (nI 5) < (nI 7) by first | rfl | decide +kernel) c)
        refine lv_iconst (v := (nI 0)) hx hb dX0_layFrom_54 (by decide +kernel) ?_
        refine lv_istore (lv' := [(5, .int (nI 0)), (0, .ref y0), (1, .ref a0), (2, .int (nI 5)), (3, .int tk), (4, .int sum)]) hx hb dX0_layFrom_55 hl (by decide) rfl (fun ls hl => ?_)
        have L_14 : ∀ (fu : Nat) (k57 : Nat) (bv : Int32) (ga : Nat → Int32) (gb : Nat → Int32), k57 ≤ an → (∀ i, i < 7 → (gb i = -1 ∨ bd (gb i) 7)) → an - k57 < fu → ∀ (H : Heap) (locs : List Loc) (ls : Array Slot), gW D T A s [(y0, .inr (0, [.int bv, .ref y1, .ref y2])), (y1, .inl (T 0, 7, .inl ga)), (y2, .inl (T 0, 7, .inl gb)), (a0, .inr (5, [.int (nI an), .int am, .int al, .int ao, .int au, .ref a1, .ref a2, .ref a3, .ref a4, .ref a5, .ref a6, .ref a7, .ref a8, .ref a9, .ref a10])), (a1, .inl (T 0, 10, .inl af1)), (a2, .inl (T 0, 10, .inl af2))] H locs → lv_has ls 7 [(5, .int (nI k57)), (0, .ref y0), (1, .ref a0), (2, .int (nI 5)), (3, .int tk), (4, .int sum)] → W p l e (rmD 4 0 0) s m args below meth c H locs 0 0 (MQ below (gQ D A (q_y_lay5 T y0 a0 tk sum ys y1 y2 yb yt an am al ao au a1 a2 a3 a4 a5 a6 a7 a8 a9 a10 af1 af2)) args s 0 0 A) (F0 m 57 ls []) := by
          intro fu_57
          induction fu_57 with
          | zero => intro k57 bv ga gb hk57 hgb hmu; exact absurd hmu (Nat.not_lt_zero _)
          | succ fu_57 ih_57 =>
            intro k57 bv ga gb hk57 hgb hmu_57 H locs ls V hl
            refine lv_iload hx hb dX0_layFrom_57 (lv_at hl 0 rfl) ?_
            refine lv_aload_n hx hb dX0_layFrom_59 rfl (lv_at hl 2 rfl) ?_
            refine g_get hC V (ci := 5) uwX5 3 rfl rfl 0 (by decide) w_35 rfl rfl dX0_layFrom_60 ?_
            refine lv_icmp_ge (tgt := 145) hx hb dX0_layFrom_63 (by decide) (fun c_15 => ?_) (fun c_15 => ?_)
            · skip
              have c_15 := b_le (by omega) (by omega) c_15
              exact g_vret (Qr := (q_y_lay5 T y0 a0 tk sum ys y1 y2 yb yt an am al ao au a1 a2 a3 a4 a5 a6 a7 a8 a9 a10 af1 af2)) hC V ⟨(Nat.le_of_ble_eq_true rfl), (Nat.le_of_ble_eq_true rfl)⟩ ⟨bv, ga, gb, rfl, rfl, (by first | assumption | omega)⟩ dX0_layFrom_145
            · skip
              have c_15 := b_nle (by omega) (by omega) c_15
              refine lv_iload_n hx hb dX0_layFrom_66 rfl (lv_at hl 4 rfl) ?_
              refine lv_iload hx hb dX0_layFrom_67 (lv_at hl 0 rfl) ?_
              refine g_callSNU (nA := 2) (host := RX7) hC V hl.1 (c_isIn l D T tk (nI k57)) w_472 (List.mem_of_getElem? (i := 7) rfl) w_2 w_471 (by decide +kernel) rfl ⟨(Nat.le_of_ble_eq_true rfl), (Nat.le_of_ble_eq_true rfl)⟩ [] rfl rfl (Nat.le_of_ble_eq_true rfl) dX0_layFrom_69 ⟨(Nat.le_of_ble_eq_true rfl), (Nat.le_of_ble_eq_true rfl)⟩ rfl (fun r w1 H locs hQ V => ?_)
              rcases hQ with ⟨rfl, rfl⟩ | ⟨rfl, rfl⟩
              · have V : gW D T A s [(y0, .inr (0, [.int bv, .ref y1, .ref y2])), (y1, .inl (T 0, 7, .inl ga)), (y2, .inl (T 0, 7, .inl gb)), (a0, .inr (5, [.int (nI an), .int am, .int al, .int ao, .int au, .ref a1, .ref a2, .ref a3, .ref a4, .ref a5, .ref a6, .ref a7, .ref a8, .ref a9, .ref a10])), (a1, .inl (T 0, 10, .inl af1)), (a2, .inl (T 0, 10, .inl af2))] H locs := V _ [] rfl rfl rfl (by decide +kernel) rfl
                show W p l e _ s m args below meth c H locs _ _ _ (F0 m 72 ls [.int (nI 1)])
                refine lv_if_ne (tgt := 139) hx hb dX0_layFrom_72 (by decide) (fun _ => ?_) (fun c => absurd (show (nI 1) = 0 from c) (by decide +kernel))
                refine lv_iinc (v := (nI (k57 + 1))) (lv' := [(5, .int (nI (k57 + 1))), (0, .ref y0), (1, .ref a0), (2, .int (nI 5)), (3, .int tk), (4, .int sum)]) hx hb dX0_layFrom_139 hl (k := 0) rfl (nI_1 _) (by decide) rfl (fun ls hl => ?_)
                refine lv_goto (tgt := 57) hx hb dX0_layFrom_142 (by decide) ?_
                exact ih_57 (k57 + 1) bv ga gb (by omega) (by assumption) (by omega) _ _ _ V (lv_sub hl [0, 1, 2, 3, 4, 5] rfl)
              · have V : gW D T A s [(y0, .inr (0, [.int bv, .ref y1, .ref y2])), (y1, .inl (T 0, 7, .inl ga)), (y2, .inl (T 0, 7, .inl gb)), (a0, .inr (5, [.int (nI an), .int am, .int al, .int ao, .int au, .ref a1, .ref a2, .ref a3, .ref a4, .ref a5, .ref a6, .ref a7, .ref a8, .ref a9, .ref a10])), (a1, .inl (T 0, 10, .inl af1)), (a2, .inl (T 0, 10, .inl af2))] H locs := V _ [] rfl rfl rfl (by decide +kernel) rfl
                show W p l e _ s m args below meth c H locs _ _ _ (F0 m 72 ls [.int (nI 0)])
                refine lv_if_ne (tgt := 139) hx hb dX0_layFrom_72 (by decide) (fun c => absurd (show (nI 0) = 0 by decide +kernel) c) (fun _ => ?_)
                refine lv_aload_n hx hb dX0_layFrom_75 rfl (lv_at hl 1 rfl) ?_
                refine lv_aload_n hx hb dX0_layFrom_76 rfl (lv_at hl 2 rfl) ?_
                refine lv_iload_n hx hb dX0_layFrom_77 rfl (lv_at hl 3 rfl) ?_
                refine lv_iload hx hb dX0_layFrom_78 (lv_at hl 0 rfl) ?_
                refine g_callVU (nA := 3) hC V hl.1 (y_closes l D T y0 a0 5 k57 bv y1 y2 gb an am al ao au a1 a2 a3 a4 a5 a6 a7 a8 a9 a10 (by first | assumption | omega) hgb (by first | assumption | omega) (by first | assumption | omega)) w_810 w_812 w_s32 w_7 w_813 (by decide +kernel) rfl ⟨(Nat.le_of_ble_eq_true rfl), (Nat.le_of_ble_eq_true rfl)⟩ 0 (ci := 0) rfl rfl [0, 2, 3] rfl rfl (Nat.le_of_ble_eq_true rfl) dX0_layFrom_80 ⟨(Nat.le_of_ble_eq_true rfl), (Nat.le_of_ble_eq_true rfl)⟩ rfl (fun r w1 H locs hQ V => ?_)
                rcases hQ with ⟨rfl, rfl⟩ | ⟨rfl, rfl⟩
                · have V : gW D T A s [(y0, .inr (0, [.int bv, .ref y1, .ref y2])), (y1, .inl (T 0, 7, .inl ga)), (y2, .inl (T 0, 7, .inl gb)), (a0, .inr (5, [.int (nI an), .int am, .int al, .int ao, .int au, .ref a1, .ref a2, .ref a3, .ref a4, .ref a5, .ref a6, .ref a7, .ref a8, .ref a9, .ref a10])), (a1, .inl (T 0, 10, .inl af1)), (a2, .inl (T 0, 10, .inl af2))] H locs := V _ [0, 1, 0] rfl rfl rfl (by decide +kernel) rfl
                  show W p l e _ s m args below meth c H locs _ _ _ (F0 m 83 ls [.int (nI 1)])
                  refine lv_if_ne (tgt := 139) hx hb dX0_layFrom_83 (by decide) (fun _ => ?_) (fun c => absurd (show (nI 1) = 0 from c) (by decide +kernel))
                  refine lv_iinc (v := (nI (k57 + 1))) (lv' := [(5, .int (nI (k57 + 1))), (0, .ref y0), (1, .ref a0), (2, .int (nI 5)), (3, .int tk), (4, .int sum)]) hx hb dX0_layFrom_139 hl (k := 0) rfl (nI_1 _) (by decide) rfl (fun ls hl => ?_)
                  refine lv_goto (tgt := 57) hx hb dX0_layFrom_142 (by decide) ?_
                  exact ih_57 (k57 + 1) bv ga gb (by omega) (by assumption) (by omega) _ _ _ V (lv_sub hl [0, 1, 2, 3, 4, 5] rfl)
                · have V : gW D T A s [(y0, .inr (0, [.int bv, .ref y1, .ref y2])), (y1, .inl (T 0, 7, .inl ga)), (y2, .inl (T 0, 7, .inl gb)), (a0, .inr (5, [.int (nI an), .int am, .int al, .int ao, .int au, .ref a1, .ref a2, .ref a3, .ref a4, .ref a5, .ref a6, .ref a7, .ref a8, .ref a9, .ref a10])), (a1, .inl (T 0, 10, .inl af1)), (a2, .inl (T 0, 10, .inl af2))] H locs := V _ [0, 1, 0] rfl rfl rfl (by decide +kernel) rfl
                  show W p l e _ s m args below meth c H locs _ _ _ (F0 m 83 ls [.int (nI 0)])
                  refine lv_if_ne (tgt := 139) hx hb dX0_layFrom_83 (by decide) (fun c => absurd (show (nI 0) = 0 by decide +kernel) c) (fun _ => ?_)
                  refine lv_aload_n hx hb dX0_layFrom_86 rfl (lv_at hl 1 rfl) ?_
                  refine g_get hC V (ci := 0) uwX0 0 rfl rfl 2 (by decide) w_215 rfl rfl dX0_layFrom_87 ?_
                  refine lv_iload_n hx hb dX0_layFrom_90 rfl (lv_at hl 3 rfl) ?_
                  refine lv_iload hx hb dX0_layFrom_91 (lv_at hl 0 rfl) ?_
                  refine g_iast hC V 2 rfl (vp_in_nI (by decide) (by decide)) (f' := (upd gb 5 (nI k57))) (by rw [nI_clamp (by decide)]) (ws' := [(y0, .inr (0, [.int bv, .ref y1, .ref y2])), (y1, .inl (T 0, 7, .inl ga)), (y2, .inl (T 0, 7, .inl (upd gb 5 (nI k57)))), (a0, .inr (5, [.int (nI an), .int am, .int al, .int ao, .int au, .ref a1, .ref a2, .ref a3, .ref a4, .ref a5, .ref a6, .ref a7, .ref a8, .ref a9, .ref a10])), (a1, .inl (T 0, 10, .inl af1)), (a2, .inl (T 0, 10, .inl af2))]) rfl dX0_layFrom_93 (fun H locs V => ?_)
                  refine lv_aload_n hx hb dX0_layFrom_94 rfl (lv_at hl 2 rfl) ?_
                  refine g_get hC V (ci := 5) uwX5 3 rfl rfl 5 (by decide) w_52 rfl rfl dX0_layFrom_95 ?_
                  refine lv_iload_n hx hb dX0_layFrom_98 rfl (lv_at hl 3 rfl) ?_
                  refine g_iald hC V 4 rfl (vp_in_nI (by decide) (by decide)) (v := (af1 5)) (congrArg _ (nI_clamp (by decide))) dX0_layFrom_99 ?_
                  refine lv_aload_n hx hb dX0_layFrom_100 rfl (lv_at hl 2 rfl) ?_
                  refine g_get hC V (ci := 5) uwX5 3 rfl rfl 6 (by decide) w_58 rfl rfl dX0_layFrom_101 ?_
                  refine lv_iload hx hb dX0_layFrom_104 (lv_at hl 0 rfl) ?_
                  refine g_iald hC V 5 rfl (vp_in_nI (by omega) (by omega)) (v := (af2 k57)) (congrArg _ (nI_clamp (by omega))) dX0_layFrom_106 ?_
                  refine lv_isub hx hb dX0_layFrom_107 ?_
                  refine va_mabs hx hb (hml.trans hl.1.symm) hown (hts _ w_814) (hts _ w_815) (hts _ w_10) (hts _ w_816) (Nat.le_of_ble_eq_true rfl) (Nat.le_of_ble_eq_true rfl) (Nat.le_of_ble_eq_true rfl) (Nat.le_of_ble_eq_true rfl) dX0_layFrom_108 ?_
                  refine lv_topi (fun x_16 ex_16 => ?_)
                  refine lv_istore (lv' := [(6, .int x_16), (5, .int (nI k57)), (0, .ref y0), (1, .ref a0), (2, .int (nI 5)), (3, .int tk), (4, .int sum)]) hx hb dX0_layFrom_111 hl (by decide) rfl (fun ls hl => ?_)
                  refine lv_aload_n hx hb dX0_layFrom_113 rfl (lv_at hl 2 rfl) ?_
                  refine lv_aload_n hx hb dX0_layFrom_114 rfl (lv_at hl 3 rfl) ?_
                  refine lv_iload_n hx hb dX0_layFrom_115 rfl (lv_at hl 4 rfl) ?_
                  refine lv_iconst (v := (nI 1)) hx hb dX0_layFrom_116 (by decide +kernel) ?_
                  refine lv_iadd hx hb dX0_layFrom_117 ?_
                  refine g_vi (y := (nI 6)) (by decide +kernel) ?_
                  refine lv_iload_n hx hb dX0_layFrom_118 rfl (lv_at hl 5 rfl) ?_
                  refine lv_iconst (v := (nI 1)) hx hb dX0_layFrom_119 (by decide +kernel) ?_
                  refine lv_iload hx hb dX0_layFrom_120 (lv_at hl 1 rfl) ?_
                  refine lv_ishl hx hb dX0_layFrom_122 ?_
                  refine lv_ior hx hb dX0_layFrom_123 ?_
                  refine lv_iload hx hb dX0_layFrom_124 (lv_at hl 6 rfl) ?_
                  refine lv_iload hx hb dX0_layFrom_126 (lv_at hl 0 rfl) ?_
                  refine lv_iadd hx hb dX0_layFrom_128 ?_
                  refine g_callV (wr := []) (nA := 4) hC V hl.1 (y_lay6 l D T y0 a0 (tk ||| ((nI 1) <<< ((nI k57) &&& 31))) (sum + x_16) bv y1 y2 ga (upd gb 5 (nI k57)) an am al ao au a1 a2 a3 a4 a5 a6 a7 a8 a9 a10 af1 af2 (by first | assumption | omega) (up_all (p := fun x => x = -1 ∨ bd x 7) hgb (fun _ => Or.inr (bd_nI (by omega))))) w_804 w_806 w_s31 w_7 w_807 (by decide +kernel) rfl ⟨(Nat.le_of_ble_eq_true rfl), (Nat.le_of_ble_eq_true rfl)⟩ 0 (ci := 0) rfl rfl [0, 1, 2, 3, 4, 5] [] rfl rfl rfl rfl (by decide) (Nat.le_of_ble_eq_true rfl) dX0_layFrom_129 ⟨(Nat.le_of_ble_eq_true rfl), (Nat.le_of_ble_eq_true rfl)⟩ rfl (fun r w1 H locs hQ V => ?_)
                  obtain ⟨bs_17, g1_18, g2_19, rfl, rfl, f_20⟩ := hQ
                  have V : gW D T A s [(y0, .inr (0, [.int bs_17, .ref y1, .ref y2])), (y1, .inl (T 0, 7, .inl g1_18)), (y2, .inl (T 0, 7, .inl g2_19)), (a0, .inr (5, [.int (nI an), .int am, .int al, .int ao, .int au, .ref a1, .ref a2, .ref a3, .ref a4, .ref a5, .ref a6, .ref a7, .ref a8, .ref a9, .ref a10])), (a1, .inl (T 0, 10, .inl af1)), (a2, .inl (T 0, 10, .inl af2))] H locs := V
                  show W p l e _ s m args below meth c H locs _ _ _ (F0 m 132 ls [])
                  have hq := up_all (p := fun x => x = -1 ∨ bd x 7) (k := 5) (x := -1) f_20 (fun _ => Or.inl rfl)
                  refine lv_aload_n hx hb dX0_layFrom_132 rfl (lv_at hl 2 rfl) ?_
                  refine g_get hC V (ci := 0) uwX0 0 rfl rfl 2 (by decide) w_215 rfl rfl dX0_layFrom_133 ?_
                  refine lv_iload_n hx hb dX0_layFrom_136 rfl (lv_at hl 4 rfl) ?_
                  refine lv_iconst (v := (-1)) hx hb dX0_layFrom_137 (by decide +kernel) ?_
                  refine g_iast hC V 2 rfl (vp_in_nI (by decide) (by decide)) (f' := (upd g2_19 5 (-1))) (by rw [nI_clamp (by decide)]) (ws' := [(y0, .inr (0, [.int bs_17, .ref y1, .ref y2])), (y1, .inl (T 0, 7, .inl g1_18)), (y2, .inl (T 0, 7, .inl (upd g2_19 5 (-1)))), (a0, .inr (5, [.int (nI an), .int am, .int al, .int ao, .int au, .ref a1, .ref a2, .ref a3, .ref a4, .ref a5, .ref a6, .ref a7, .ref a8, .ref a9, .ref a10])), (a1, .inl (T 0, 10, .inl af1)), (a2, .inl (T 0, 10, .inl af2))]) rfl dX0_layFrom_138 (fun H locs V => ?_)
                  refine lv_iinc (v := (nI (k57 + 1))) (lv' := [(5, .int (nI (k57 + 1))), (6, .int x_16), (0, .ref y0), (1, .ref a0), (2, .int (nI 5)), (3, .int tk), (4, .int sum)]) hx hb dX0_layFrom_139 hl (k := 1) rfl (nI_1 _) (by decide) rfl (fun ls hl => ?_)
                  refine lv_goto (tgt := 57) hx hb dX0_layFrom_142 (by decide) ?_
                  exact ih_57 (k57 + 1) bs_17 g1_18 (upd g2_19 5 (-1)) (by omega) (by assumption) (by omega) _ _ _ V (lv_sub hl [0, 2, 3, 4, 5, 6] rfl)
        exact L_14 _ 0 ys yb yt (by omega) h_yt (Nat.lt_succ_self _) _ _ _ V (lv_sub hl [0, 1, 2, 3, 4, 5] rfl)
    · skip
      exact g_vret (Qr := (q_y_lay5 T y0 a0 tk sum ys y1 y2 yb yt an am al ao au a1 a2 a3 a4 a5 a6 a7 a8 a9 a10 af1 af2)) hC V ⟨(Nat.le_of_ble_eq_true rfl), (Nat.le_of_ble_eq_true rfl)⟩ ⟨ys, yb, yt, rfl, rfl, (by first | assumption | omega)⟩ dX0_layFrom_17

def q_y_lay4 (T : Nat → ClassId) (y0 : Nat) (a0 : Nat) (tk : Int32) (sum : Int32) (ys : Int32) (y1 : Nat) (y2 : Nat) (yb : Nat → Int32) (yt : Nat → Int32) (an : Nat) (am : Int32) (al : Int32) (ao : Int32) (au : Int32) (a1 : Nat) (a2 : Nat) (a3 : Nat) (a4 : Nat) (a5 : Nat) (a6 : Nat) (a7 : Nat) (a8 : Nat) (a9 : Nat) (a10 : Nat) (af1 : Nat → Int32) (af2 : Nat → Int32) : Option Value → va_W → Prop := fun rr ww => (∃ (bs : Int32) (g1 : Nat → Int32) (g2 : Nat → Int32), rr = none ∧ ww = [(y0, .inr (0, [.int bs, .ref y1, .ref y2])), (y1, .inl (T 0, 7, .inl g1)), (y2, .inl (T 0, 7, .inl g2)), (a0, .inr (5, [.int (nI an), .int am, .int al, .int ao, .int au, .ref a1, .ref a2, .ref a3, .ref a4, .ref a5, .ref a6, .ref a7, .ref a8, .ref a9, .ref a10])), (a1, .inl (T 0, 10, .inl af1)), (a2, .inl (T 0, 10, .inl af2))] ∧ (∀ i, i < 7 → (g2 i = -1 ∨ bd (g2 i) 7)))
set_option maxHeartbeats 4000000 in
set_option maxRecDepth 100000 in
theorem y_lay4 (l : Launch) (D : va_G) (T : Nat → ClassId) (y0 : Nat) (a0 : Nat) (tk : Int32) (sum : Int32) (ys : Int32) (y1 : Nat) (y2 : Nat) (yb : Nat → Int32) (yt : Nat → Int32) (an : Nat) (am : Int32) (al : Int32) (ao : Int32) (au : Int32) (a1 : Nat) (a2 : Nat) (a3 : Nat) (a4 : Nat) (a5 : Nat) (a6 : Nat) (a7 : Nat) (a8 : Nat) (a9 : Nat) (a10 : Nat) (af1 : Nat → Int32) (af2 : Nat → Int32) (h_n : an ≤ 7) (h_yt : ∀ i, i < 7 → (yt i = -1 ∨ bd (yt i) 7)) : Ct l yX0_layFrom cX0_layFrom 7 none 5 0 0 D T [.ref y0, .ref a0, .int (nI 4), .int tk, .int sum] [(y0, .inr (0, [.int ys, .ref y1, .ref y2])), (y1, .inl (T 0, 7, .inl yb)), (y2, .inl (T 0, 7, .inl yt)), (a0, .inr (5, [.int (nI an), .int am, .int al, .int ao, .int au, .ref a1, .ref a2, .ref a3, .ref a4, .ref a5, .ref a6, .ref a7, .ref a8, .ref a9, .ref a10])), (a1, .inl (T 0, 10, .inl af1)), (a2, .inl (T 0, 10, .inl af2))] (q_y_lay4 T y0 a0 tk sum ys y1 y2 yb yt an am al ao au a1 a2 a3 a4 a5 a6 a7 a8 a9 a10 af1 af2) := by
  refine Ct.of (cc := cX0_layFrom) (maxL := 7) (ret := none) (by decide) (Nat.le_of_ble_eq_true rfl) ?_
  intro p e s m args below meth c A ls hC hnm V hl
  obtain ⟨hx, hb, hr, hml, hown, hts, hlocks⟩ := id hC
  generalize hH : s.heap = H at V ⊢
  clear hH
  have hl : lv_has ls 7 [(0, .ref y0), (1, .ref a0), (2, .int (nI 4)), (3, .int tk), (4, .int sum)] := hl
  generalize hlo : ([] : List Loc) = locs at V ⊢
  clear hlo
  refine lv_aload_n hx hb dX0_layFrom_0 rfl (lv_at hl 0 rfl) ?_
  refine g_get hC V (ci := 0) uwX0 0 rfl rfl 0 (by decide) w_211 rfl rfl dX0_layFrom_1 ?_
  refine lv_iconst (v := (-1)) hx hb dX0_layFrom_4 (by decide +kernel) ?_
  refine lv_icmp_eq (tgt := 18) hx hb dX0_layFrom_5 (by decide) (fun c_1 => ?_) (fun c_1 => ?_)
  · skip
    refine lv_iload_n hx hb dX0_layFrom_18 rfl (lv_at hl 2 rfl) ?_
    refine lv_aload_n hx hb dX0_layFrom_19 rfl (lv_at hl 1 rfl) ?_
    refine g_get hC V (ci := 5) uwX5 3 rfl rfl 0 (by decide) w_35 rfl rfl dX0_layFrom_20 ?_
    refine lv_icmp_ge (tgt := 32) hx hb dX0_layFrom_23 (by decide) (fun c_2 => ?_) (fun c_2 => ?_)
    · skip
      have c_2 := b_le (by omega) (by omega) c_2
      refine lv_aload_n hx hb dX0_layFrom_32 rfl (lv_at hl 0 rfl) ?_
      refine lv_iload hx hb dX0_layFrom_33 (lv_at hl 4 rfl) ?_
      refine g_put hC V (ci := 0) uwX0 tyX0 tyX0_ok nmX0 0 rfl rfl 0 (by decide) w_211 rfl rfl rfl rfl (Nat.le_of_ble_eq_true rfl) (ws' := [(y0, .inr (0, [.int sum, .ref y1, .ref y2])), (y1, .inl (T 0, 7, .inl yb)), (y2, .inl (T 0, 7, .inl yt)), (a0, .inr (5, [.int (nI an), .int am, .int al, .int ao, .int au, .ref a1, .ref a2, .ref a3, .ref a4, .ref a5, .ref a6, .ref a7, .ref a8, .ref a9, .ref a10])), (a1, .inl (T 0, 10, .inl af1)), (a2, .inl (T 0, 10, .inl af2))]) rfl dX0_layFrom_35 (fun H locs V => ?_)
      refine lv_aload_n hx hb dX0_layFrom_38 rfl (lv_at hl 0 rfl) ?_
      refine g_get hC V (ci := 0) uwX0 0 rfl rfl 2 (by decide) w_215 rfl rfl dX0_layFrom_39 ?_
      refine lv_iconst (v := (nI 0)) hx hb dX0_layFrom_42 (by decide +kernel) ?_
      refine lv_aload_n hx hb dX0_layFrom_43 rfl (lv_at hl 0 rfl) ?_
      refine g_get hC V (ci := 0) uwX0 0 rfl rfl 1 (by decide) w_213 rfl rfl dX0_layFrom_44 ?_
      refine lv_iconst (v := (nI 0)) hx hb dX0_layFrom_47 (by decide +kernel) ?_
      refine lv_bipush (v := (nI 7)) hx hb dX0_layFrom_48 (by decide +kernel) ?_
      refine g_copyi hC V hl.1 w_808 w_672 w_671 w_17 2 1 rfl rfl (by decide +kernel) (by decide +kernel) (Nat.le_of_ble_eq_true rfl) (Nat.le_of_ble_eq_true rfl) (Nat.le_of_ble_eq_true rfl) dX0_layFrom_50 (fun g_3 H locs V => ?_)
      have V : gW D T A s [(y0, .inr (0, [.int sum, .ref y1, .ref y2])), (y1, .inl (T 0, 7, .inl g_3)), (y2, .inl (T 0, 7, .inl yt)), (a0, .inr (5, [.int (nI an), .int am, .int al, .int ao, .int au, .ref a1, .ref a2, .ref a3, .ref a4, .ref a5, .ref a6, .ref a7, .ref a8, .ref a9, .ref a10])), (a1, .inl (T 0, 10, .inl af1)), (a2, .inl (T 0, 10, .inl af2))] H locs := V
      exact g_vret (Qr := (q_y_lay4 T y0 a0 tk sum ys y1 y2 yb yt an am al ao au a1 a2 a3 a4 a5 a6 a7 a8 a9 a10 af1 af2)) hC V ⟨(Nat.le_of_ble_eq_true rfl), (Nat.le_of_ble_eq_true rfl)⟩ ⟨sum, g_3, yt, rfl, rfl, (by first | assumption | omega)⟩ dX0_layFrom_53
    · skip
      have c_2 := b_nle (by omega) (by omega) c_2
      refine lv_iload_n hx hb dX0_layFrom_26 rfl (lv_at hl 2 rfl) ?_
      refine lv_bipush (v := (nI 7)) hx hb dX0_layFrom_27 (by decide +kernel) ?_
      refine lv_icmp_lt (tgt := 54) hx hb dX0_layFrom_29 (by decide) (fun _ => ?_) (fun c => absurd (show (nI 4) < (nI 7) by first | rfl | decide +kernel) c)
      refine lv_iconst (v := (nI 0)) hx hb dX0_layFrom_54 (by decide +kernel) ?_
      refine lv_istore (lv' := [(5, .int (nI 0)), (0, .ref y0), (1, .ref a0), (2, .int (nI 4)), (3, .int tk), (4, .int sum)]) hx hb dX0_layFrom_55 hl (by decide) rfl (fun ls hl => ?_)
      have L_4 : ∀ (fu : Nat) (k57 : Nat) (bv : Int32) (ga : Nat → Int32) (gb : Nat → Int32), k57 ≤ an → (∀ i, i < 7 → (gb i = -1 ∨ bd (gb i) 7)) → an - k57 < fu → ∀ (H : Heap) (locs : List Loc) (ls : Array Slot), gW D T A s [(y0, .inr (0, [.int bv, .ref y1, .ref y2])), (y1, .inl (T 0, 7, .inl ga)), (y2, .inl (T 0, 7, .inl gb)), (a0, .inr (5, [.int (nI an), .int am, .int al, .int ao, .int au, .ref a1, .ref a2, .ref a3, .ref a4, .ref a5, .ref a6, .ref a7, .ref a8, .ref a9, .ref a10])), (a1, .inl (T 0, 10, .inl af1)), (a2, .inl (T 0, 10, .inl af2))] H locs → lv_has ls 7 [(5, .int (nI k57)), (0, .ref y0), (1, .ref a0), (2, .int (nI 4)), (3, .int tk), (4, .int sum)] → W p l e (rmD 5 0 0) s m args below meth c H locs 0 0 (MQ below (gQ D A (q_y_lay4 T y0 a0 tk sum ys y1 y2 yb yt an am al ao au a1 a2 a3 a4 a5 a6 a7 a8 a9 a10 af1 af2)) args s 0 0 A) (F0 m 57 ls []) := by
        intro fu_57
        induction fu_57 with
        | zero => intro k57 bv ga gb hk57 hgb hmu; exact absurd hmu (Nat.not_lt_zero _)
        | succ fu_57 ih_57 =>
          intro k57 bv ga gb hk57 hgb hmu_57 H locs ls V hl
          refine lv_iload hx hb dX0_layFrom_57 (lv_at hl 0 rfl) ?_
          refine lv_aload_n hx hb dX0_layFrom_59 rfl (lv_at hl 2 rfl) ?_
          refine g_get hC V (ci := 5) uwX5 3 rfl rfl 0 (by decide) w_35 rfl rfl dX0_layFrom_60 ?_
          refine lv_icmp_ge (tgt := 145) hx hb dX0_layFrom_63 (by decide) (fun c_5 => ?_) (fun c_5 => ?_)
          · skip
            have c_5 := b_le (by omega) (by omega) c_5
            exact g_vret (Qr := (q_y_lay4 T y0 a0 tk sum ys y1 y2 yb yt an am al ao au a1 a2 a3 a4 a5 a6 a7 a8 a9 a10 af1 af2)) hC V ⟨(Nat.le_of_ble_eq_true rfl), (Nat.le_of_ble_eq_true rfl)⟩ ⟨bv, ga, gb, rfl, rfl, (by first | assumption | omega)⟩ dX0_layFrom_145
          · skip
            have c_5 := b_nle (by omega) (by omega) c_5
            refine lv_iload_n hx hb dX0_layFrom_66 rfl (lv_at hl 4 rfl) ?_
            refine lv_iload hx hb dX0_layFrom_67 (lv_at hl 0 rfl) ?_
            refine g_callSNU (nA := 2) (host := RX7) hC V hl.1 (c_isIn l D T tk (nI k57)) w_472 (List.mem_of_getElem? (i := 7) rfl) w_2 w_471 (by decide +kernel) rfl ⟨(Nat.le_of_ble_eq_true rfl), (Nat.le_of_ble_eq_true rfl)⟩ [] rfl rfl (Nat.le_of_ble_eq_true rfl) dX0_layFrom_69 ⟨(Nat.le_of_ble_eq_true rfl), (Nat.le_of_ble_eq_true rfl)⟩ rfl (fun r w1 H locs hQ V => ?_)
            rcases hQ with ⟨rfl, rfl⟩ | ⟨rfl, rfl⟩
            · have V : gW D T A s [(y0, .inr (0, [.int bv, .ref y1, .ref y2])), (y1, .inl (T 0, 7, .inl ga)), (y2, .inl (T 0, 7, .inl gb)), (a0, .inr (5, [.int (nI an), .int am, .int al, .int ao, .int au, .ref a1, .ref a2, .ref a3, .ref a4, .ref a5, .ref a6, .ref a7, .ref a8, .ref a9, .ref a10])), (a1, .inl (T 0, 10, .inl af1)), (a2, .inl (T 0, 10, .inl af2))] H locs := V _ [] rfl rfl rfl (by decide +kernel) rfl
              show W p l e _ s m args below meth c H locs _ _ _ (F0 m 72 ls [.int (nI 1)])
              refine lv_if_ne (tgt := 139) hx hb dX0_layFrom_72 (by decide) (fun _ => ?_) (fun c => absurd (show (nI 1) = 0 from c) (by decide +kernel))
              refine lv_iinc (v := (nI (k57 + 1))) (lv' := [(5, .int (nI (k57 + 1))), (0, .ref y0), (1, .ref a0), (2, .int (nI 4)), (3, .int tk), (4, .int sum)]) hx hb dX0_layFrom_139 hl (k := 0) rfl (nI_1 _) (by decide) rfl (fun ls hl => ?_)
              refine lv_goto (tgt := 57) hx hb dX0_layFrom_142 (by decide) ?_
              exact ih_57 (k57 + 1) bv ga gb (by omega) (by assumption) (by omega) _ _ _ V (lv_sub hl [0, 1, 2, 3, 4, 5] rfl)
            · have V : gW D T A s [(y0, .inr (0, [.int bv, .ref y1, .ref y2])), (y1, .inl (T 0, 7, .inl ga)), (y2, .inl (T 0, 7, .inl gb)), (a0, .inr (5, [.int (nI an), .int am, .int al, .int ao, .int au, .ref a1, .ref a2, .ref a3, .ref a4, .ref a5, .ref a6, .ref a7, .ref a8, .ref a9, .ref a10])), (a1, .inl (T 0, 10, .inl af1)), (a2, .inl (T 0, 10, .inl af2))] H locs := V _ [] rfl rfl rfl (by decide +kernel) rfl
              show W p l e _ s m args below meth c H locs _ _ _ (F0 m 72 ls [.int (nI 0)])
              refine lv_if_ne (tgt := 139) hx hb dX0_layFrom_72 (by decide) (fun c => absurd (show (nI 0) = 0 by decide +kernel) c) (fun _ => ?_)
              refine lv_aload_n hx hb dX0_layFrom_75 rfl (lv_at hl 1 rfl) ?_
              refine lv_aload_n hx hb dX0_layFrom_76 rfl (lv_at hl 2 rfl) ?_
              refine lv_iload_n hx hb dX0_layFrom_77 rfl (lv_at hl 3 rfl) ?_
              refine lv_iload hx hb dX0_layFrom_78 (lv_at hl 0 rfl) ?_
              refine g_callVU (nA := 3) hC V hl.1 (y_closes l D T y0 a0 4 k57 bv y1 y2 gb an am al ao au a1 a2 a3 a4 a5 a6 a7 a8 a9 a10 (by first | assumption | omega) hgb (by first | assumption | omega) (by first | assumption | omega)) w_810 w_812 w_s32 w_7 w_813 (by decide +kernel) rfl ⟨(Nat.le_of_ble_eq_true rfl), (Nat.le_of_ble_eq_true rfl)⟩ 0 (ci := 0) rfl rfl [0, 2, 3] rfl rfl (Nat.le_of_ble_eq_true rfl) dX0_layFrom_80 ⟨(Nat.le_of_ble_eq_true rfl), (Nat.le_of_ble_eq_true rfl)⟩ rfl (fun r w1 H locs hQ V => ?_)
              rcases hQ with ⟨rfl, rfl⟩ | ⟨rfl, rfl⟩
              · have V : gW D T A s [(y0, .inr (0, [.int bv, .ref y1, .ref y2])), (y1, .inl (T 0, 7, .inl ga)), (y2, .inl (T 0, 7, .inl gb)), (a0, .inr (5, [.int (nI an), .int am, .int al, .int ao, .int au, .ref a1, .ref a2, .ref a3, .ref a4, .ref a5, .ref a6, .ref a7, .ref a8, .ref a9, .ref a10])), (a1, .inl (T 0, 10, .inl af1)), (a2, .inl (T 0, 10, .inl af2))] H locs := V _ [0, 1, 0] rfl rfl rfl (by decide +kernel) rfl
                show W p l e _ s m args below meth c H locs _ _ _ (F0 m 83 ls [.int (nI 1)])
                refine lv_if_ne (tgt := 139) hx hb dX0_layFrom_83 (by decide) (fun _ => ?_) (fun c => absurd (show (nI 1) = 0 from c) (by decide +kernel))
                refine lv_iinc (v := (nI (k57 + 1))) (lv' := [(5, .int (nI (k57 + 1))), (0, .ref y0), (1, .ref a0), (2, .int (nI 4)), (3, .int tk), (4, .int sum)]) hx hb dX0_layFrom_139 hl (k := 0) rfl (nI_1 _) (by decide) rfl (fun ls hl => ?_)
                refine lv_goto (tgt := 57) hx hb dX0_layFrom_142 (by decide) ?_
                exact ih_57 (k57 + 1) bv ga gb (by omega) (by assumption) (by omega) _ _ _ V (lv_sub hl [0, 1, 2, 3, 4, 5] rfl)
              · have V : gW D T A s [(y0, .inr (0, [.int bv, .ref y1, .ref y2])), (y1, .inl (T 0, 7, .inl ga)), (y2, .inl (T 0, 7, .inl gb)), (a0, .inr (5, [.int (nI an), .int am, .int al, .int ao, .int au, .ref a1, .ref a2, .ref a3, .ref a4, .ref a5, .ref a6, .ref a7, .ref a8, .ref a9, .ref a10])), (a1, .inl (T 0, 10, .inl af1)), (a2, .inl (T 0, 10, .inl af2))] H locs := V _ [0, 1, 0] rfl rfl rfl (by decide +kernel) rfl
                show W p l e _ s m args below meth c H locs _ _ _ (F0 m 83 ls [.int (nI 0)])
                refine lv_if_ne (tgt := 139) hx hb dX0_layFrom_83 (by decide) (fun c => absurd (show (nI 0) = 0 by decide +kernel) c) (fun _ => ?_)
                refine lv_aload_n hx hb dX0_layFrom_86 rfl (lv_at hl 1 rfl) ?_
                refine g_get hC V (ci := 0) uwX0 0 rfl rfl 2 (by decide) w_215 rfl rfl dX0_layFrom_87 ?_
                refine lv_iload_n hx hb dX0_layFrom_90 rfl (lv_at hl 3 rfl) ?_
                refine lv_iload hx hb dX0_layFrom_91 (lv_at hl 0 rfl) ?_
                refine g_iast hC V 2 rfl (vp_in_nI (by decide) (by decide)) (f' := (upd gb 4 (nI k57))) (by rw [nI_clamp (by decide)]) (ws' := [(y0, .inr (0, [.int bv, .ref y1, .ref y2])), (y1, .inl (T 0, 7, .inl ga)), (y2, .inl (T 0, 7, .inl (upd gb 4 (nI k57)))), (a0, .inr (5, [.int (nI an), .int am, .int al, .int ao, .int au, .ref a1, .ref a2, .ref a3, .ref a4, .ref a5, .ref a6, .ref a7, .ref a8, .ref a9, .ref a10])), (a1, .inl (T 0, 10, .inl af1)), (a2, .inl (T 0, 10, .inl af2))]) rfl dX0_layFrom_93 (fun H locs V => ?_)
                refine lv_aload_n hx hb dX0_layFrom_94 rfl (lv_at hl 2 rfl) ?_
                refine g_get hC V (ci := 5) uwX5 3 rfl rfl 5 (by decide) w_52 rfl rfl dX0_layFrom_95 ?_
                refine lv_iload_n hx hb dX0_layFrom_98 rfl (lv_at hl 3 rfl) ?_
                refine g_iald hC V 4 rfl (vp_in_nI (by decide) (by decide)) (v := (af1 4)) (congrArg _ (nI_clamp (by decide))) dX0_layFrom_99 ?_
                refine lv_aload_n hx hb dX0_layFrom_100 rfl (lv_at hl 2 rfl) ?_
                refine g_get hC V (ci := 5) uwX5 3 rfl rfl 6 (by decide) w_58 rfl rfl dX0_layFrom_101 ?_
                refine lv_iload hx hb dX0_layFrom_104 (lv_at hl 0 rfl) ?_
                refine g_iald hC V 5 rfl (vp_in_nI (by omega) (by omega)) (v := (af2 k57)) (congrArg _ (nI_clamp (by omega))) dX0_layFrom_106 ?_
                refine lv_isub hx hb dX0_layFrom_107 ?_
                refine va_mabs hx hb (hml.trans hl.1.symm) hown (hts _ w_814) (hts _ w_815) (hts _ w_10) (hts _ w_816) (Nat.le_of_ble_eq_true rfl) (Nat.le_of_ble_eq_true rfl) (Nat.le_of_ble_eq_true rfl) (Nat.le_of_ble_eq_true rfl) dX0_layFrom_108 ?_
                refine lv_topi (fun x_6 ex_6 => ?_)
                refine lv_istore (lv' := [(6, .int x_6), (5, .int (nI k57)), (0, .ref y0), (1, .ref a0), (2, .int (nI 4)), (3, .int tk), (4, .int sum)]) hx hb dX0_layFrom_111 hl (by decide) rfl (fun ls hl => ?_)
                refine lv_aload_n hx hb dX0_layFrom_113 rfl (lv_at hl 2 rfl) ?_
                refine lv_aload_n hx hb dX0_layFrom_114 rfl (lv_at hl 3 rfl) ?_
                refine lv_iload_n hx hb dX0_layFrom_115 rfl (lv_at hl 4 rfl) ?_
                refine lv_iconst (v := (nI 1)) hx hb dX0_layFrom_116 (by decide +kernel) ?_
                refine lv_iadd hx hb dX0_layFrom_117 ?_
                refine g_vi (y := (nI 5)) (by decide +kernel) ?_
                refine lv_iload_n hx hb dX0_layFrom_118 rfl (lv_at hl 5 rfl) ?_
                refine lv_iconst (v := (nI 1)) hx hb dX0_layFrom_119 (by decide +kernel) ?_
                refine lv_iload hx hb dX0_layFrom_120 (lv_at hl 1 rfl) ?_
                refine lv_ishl hx hb dX0_layFrom_122 ?_
                refine lv_ior hx hb dX0_layFrom_123 ?_
                refine lv_iload hx hb dX0_layFrom_124 (lv_at hl 6 rfl) ?_
                refine lv_iload hx hb dX0_layFrom_126 (lv_at hl 0 rfl) ?_
                refine lv_iadd hx hb dX0_layFrom_128 ?_
                refine g_callV (wr := []) (nA := 4) hC V hl.1 (y_lay5 l D T y0 a0 (tk ||| ((nI 1) <<< ((nI k57) &&& 31))) (sum + x_6) bv y1 y2 ga (upd gb 4 (nI k57)) an am al ao au a1 a2 a3 a4 a5 a6 a7 a8 a9 a10 af1 af2 (by first | assumption | omega) (up_all (p := fun x => x = -1 ∨ bd x 7) hgb (fun _ => Or.inr (bd_nI (by omega))))) w_804 w_806 w_s31 w_7 w_807 (by decide +kernel) rfl ⟨(Nat.le_of_ble_eq_true rfl), (Nat.le_of_ble_eq_true rfl)⟩ 0 (ci := 0) rfl rfl [0, 1, 2, 3, 4, 5] [] rfl rfl rfl rfl (by decide) (Nat.le_of_ble_eq_true rfl) dX0_layFrom_129 ⟨(Nat.le_of_ble_eq_true rfl), (Nat.le_of_ble_eq_true rfl)⟩ rfl (fun r w1 H locs hQ V => ?_)
                obtain ⟨bs_7, g1_8, g2_9, rfl, rfl, f_10⟩ := hQ
                have V : gW D T A s [(y0, .inr (0, [.int bs_7, .ref y1, .ref y2])), (y1, .inl (T 0, 7, .inl g1_8)), (y2, .inl (T 0, 7, .inl g2_9)), (a0, .inr (5, [.int (nI an), .int am, .int al, .int ao, .int au, .ref a1, .ref a2, .ref a3, .ref a4, .ref a5, .ref a6, .ref a7, .ref a8, .ref a9, .ref a10])), (a1, .inl (T 0, 10, .inl af1)), (a2, .inl (T 0, 10, .inl af2))] H locs := V
                show W p l e _ s m args below meth c H locs _ _ _ (F0 m 132 ls [])
                have hq := up_all (p := fun x => x = -1 ∨ bd x 7) (k := 4) (x := -1) f_10 (fun _ => Or.inl rfl)
                refine lv_aload_n hx hb dX0_layFrom_132 rfl (lv_at hl 2 rfl) ?_
                refine g_get hC V (ci := 0) uwX0 0 rfl rfl 2 (by decide) w_215 rfl rfl dX0_layFrom_133 ?_
                refine lv_iload_n hx hb dX0_layFrom_136 rfl (lv_at hl 4 rfl) ?_
                refine lv_iconst (v := (-1)) hx hb dX0_layFrom_137 (by decide +kernel) ?_
                refine g_iast hC V 2 rfl (vp_in_nI (by decide) (by decide)) (f' := (upd g2_9 4 (-1))) (by rw [nI_clamp (by decide)]) (ws' := [(y0, .inr (0, [.int bs_7, .ref y1, .ref y2])), (y1, .inl (T 0, 7, .inl g1_8)), (y2, .inl (T 0, 7, .inl (upd g2_9 4 (-1)))), (a0, .inr (5, [.int (nI an), .int am, .int al, .int ao, .int au, .ref a1, .ref a2, .ref a3, .ref a4, .ref a5, .ref a6, .ref a7, .ref a8, .ref a9, .ref a10])), (a1, .inl (T 0, 10, .inl af1)), (a2, .inl (T 0, 10, .inl af2))]) rfl dX0_layFrom_138 (fun H locs V => ?_)
                refine lv_iinc (v := (nI (k57 + 1))) (lv' := [(5, .int (nI (k57 + 1))), (6, .int x_6), (0, .ref y0), (1, .ref a0), (2, .int (nI 4)), (3, .int tk), (4, .int sum)]) hx hb dX0_layFrom_139 hl (k := 1) rfl (nI_1 _) (by decide) rfl (fun ls hl => ?_)
                refine lv_goto (tgt := 57) hx hb dX0_layFrom_142 (by decide) ?_
                exact ih_57 (k57 + 1) bs_7 g1_8 (upd g2_9 4 (-1)) (by omega) (by assumption) (by omega) _ _ _ V (lv_sub hl [0, 2, 3, 4, 5, 6] rfl)
      exact L_4 _ 0 ys yb yt (by omega) h_yt (Nat.lt_succ_self _) _ _ _ V (lv_sub hl [0, 1, 2, 3, 4, 5] rfl)
  · skip
    refine lv_iload hx hb dX0_layFrom_8 (lv_at hl 4 rfl) ?_
    refine lv_aload_n hx hb dX0_layFrom_10 rfl (lv_at hl 0 rfl) ?_
    refine g_get hC V (ci := 0) uwX0 0 rfl rfl 0 (by decide) w_211 rfl rfl dX0_layFrom_11 ?_
    refine lv_icmp_lt (tgt := 18) hx hb dX0_layFrom_14 (by decide) (fun c_11 => ?_) (fun c_11 => ?_)
    · skip
      refine lv_iload_n hx hb dX0_layFrom_18 rfl (lv_at hl 2 rfl) ?_
      refine lv_aload_n hx hb dX0_layFrom_19 rfl (lv_at hl 1 rfl) ?_
      refine g_get hC V (ci := 5) uwX5 3 rfl rfl 0 (by decide) w_35 rfl rfl dX0_layFrom_20 ?_
      refine lv_icmp_ge (tgt := 32) hx hb dX0_layFrom_23 (by decide) (fun c_12 => ?_) (fun c_12 => ?_)
      · skip
        have c_12 := b_le (by omega) (by omega) c_12
        refine lv_aload_n hx hb dX0_layFrom_32 rfl (lv_at hl 0 rfl) ?_
        refine lv_iload hx hb dX0_layFrom_33 (lv_at hl 4 rfl) ?_
        refine g_put hC V (ci := 0) uwX0 tyX0 tyX0_ok nmX0 0 rfl rfl 0 (by decide) w_211 rfl rfl rfl rfl (Nat.le_of_ble_eq_true rfl) (ws' := [(y0, .inr (0, [.int sum, .ref y1, .ref y2])), (y1, .inl (T 0, 7, .inl yb)), (y2, .inl (T 0, 7, .inl yt)), (a0, .inr (5, [.int (nI an), .int am, .int al, .int ao, .int au, .ref a1, .ref a2, .ref a3, .ref a4, .ref a5, .ref a6, .ref a7, .ref a8, .ref a9, .ref a10])), (a1, .inl (T 0, 10, .inl af1)), (a2, .inl (T 0, 10, .inl af2))]) rfl dX0_layFrom_35 (fun H locs V => ?_)
        refine lv_aload_n hx hb dX0_layFrom_38 rfl (lv_at hl 0 rfl) ?_
        refine g_get hC V (ci := 0) uwX0 0 rfl rfl 2 (by decide) w_215 rfl rfl dX0_layFrom_39 ?_
        refine lv_iconst (v := (nI 0)) hx hb dX0_layFrom_42 (by decide +kernel) ?_
        refine lv_aload_n hx hb dX0_layFrom_43 rfl (lv_at hl 0 rfl) ?_
        refine g_get hC V (ci := 0) uwX0 0 rfl rfl 1 (by decide) w_213 rfl rfl dX0_layFrom_44 ?_
        refine lv_iconst (v := (nI 0)) hx hb dX0_layFrom_47 (by decide +kernel) ?_
        refine lv_bipush (v := (nI 7)) hx hb dX0_layFrom_48 (by decide +kernel) ?_
        refine g_copyi hC V hl.1 w_808 w_672 w_671 w_17 2 1 rfl rfl (by decide +kernel) (by decide +kernel) (Nat.le_of_ble_eq_true rfl) (Nat.le_of_ble_eq_true rfl) (Nat.le_of_ble_eq_true rfl) dX0_layFrom_50 (fun g_13 H locs V => ?_)
        have V : gW D T A s [(y0, .inr (0, [.int sum, .ref y1, .ref y2])), (y1, .inl (T 0, 7, .inl g_13)), (y2, .inl (T 0, 7, .inl yt)), (a0, .inr (5, [.int (nI an), .int am, .int al, .int ao, .int au, .ref a1, .ref a2, .ref a3, .ref a4, .ref a5, .ref a6, .ref a7, .ref a8, .ref a9, .ref a10])), (a1, .inl (T 0, 10, .inl af1)), (a2, .inl (T 0, 10, .inl af2))] H locs := V
        exact g_vret (Qr := (q_y_lay4 T y0 a0 tk sum ys y1 y2 yb yt an am al ao au a1 a2 a3 a4 a5 a6 a7 a8 a9 a10 af1 af2)) hC V ⟨(Nat.le_of_ble_eq_true rfl), (Nat.le_of_ble_eq_true rfl)⟩ ⟨sum, g_13, yt, rfl, rfl, (by first | assumption | omega)⟩ dX0_layFrom_53
      · skip
        have c_12 := b_nle (by omega) (by omega) c_12
        refine lv_iload_n hx hb dX0_layFrom_26 rfl (lv_at hl 2 rfl) ?_
        refine lv_bipush (v := (nI 7)) hx hb dX0_layFrom_27 (by decide +kernel) ?_
        refine lv_icmp_lt (tgt := 54) hx hb dX0_layFrom_29 (by decide) (fun _ => ?_) (fun c => absurd (show (nI 4) < (nI 7) by first | rfl | decide +kernel) c)
        refine lv_iconst (v := (nI 0)) hx hb dX0_layFrom_54 (by decide +kernel) ?_
        refine lv_istore (lv' := [(5, .int (nI 0)), (0, .ref y0), (1, .ref a0), (2, .int (nI 4)), (3, .int tk), (4, .int sum)]) hx hb dX0_layFrom_55 hl (by decide) rfl (fun ls hl => ?_)
        have L_14 : ∀ (fu : Nat) (k57 : Nat) (bv : Int32) (ga : Nat → Int32) (gb : Nat → Int32), k57 ≤ an → (∀ i, i < 7 → (gb i = -1 ∨ bd (gb i) 7)) → an - k57 < fu → ∀ (H : Heap) (locs : List Loc) (ls : Array Slot), gW D T A s [(y0, .inr (0, [.int bv, .ref y1, .ref y2])), (y1, .inl (T 0, 7, .inl ga)), (y2, .inl (T 0, 7, .inl gb)), (a0, .inr (5, [.int (nI an), .int am, .int al, .int ao, .int au, .ref a1, .ref a2, .ref a3, .ref a4, .ref a5, .ref a6, .ref a7, .ref a8, .ref a9, .ref a10])), (a1, .inl (T 0, 10, .inl af1)), (a2, .inl (T 0, 10, .inl af2))] H locs → lv_has ls 7 [(5, .int (nI k57)), (0, .ref y0), (1, .ref a0), (2, .int (nI 4)), (3, .int tk), (4, .int sum)] → W p l e (rmD 5 0 0) s m args below meth c H locs 0 0 (MQ below (gQ D A (q_y_lay4 T y0 a0 tk sum ys y1 y2 yb yt an am al ao au a1 a2 a3 a4 a5 a6 a7 a8 a9 a10 af1 af2)) args s 0 0 A) (F0 m 57 ls []) := by
          intro fu_57
          induction fu_57 with
          | zero => intro k57 bv ga gb hk57 hgb hmu; exact absurd hmu (Nat.not_lt_zero _)
          | succ fu_57 ih_57 =>
            intro k57 bv ga gb hk57 hgb hmu_57 H locs ls V hl
            refine lv_iload hx hb dX0_layFrom_57 (lv_at hl 0 rfl) ?_
            refine lv_aload_n hx hb dX0_layFrom_59 rfl (lv_at hl 2 rfl) ?_
            refine g_get hC V (ci := 5) uwX5 3 rfl rfl 0 (by decide) w_35 rfl rfl dX0_layFrom_60 ?_
            refine lv_icmp_ge (tgt := 145) hx hb dX0_layFrom_63 (by decide) (fun c_15 => ?_) (fun c_15 => ?_)
            · skip
              have c_15 := b_le (by omega) (by omega) c_15
              exact g_vret (Qr := (q_y_lay4 T y0 a0 tk sum ys y1 y2 yb yt an am al ao au a1 a2 a3 a4 a5 a6 a7 a8 a9 a10 af1 af2)) hC V ⟨(Nat.le_of_ble_eq_true rfl), (Nat.le_of_ble_eq_true rfl)⟩ ⟨bv, ga, gb, rfl, rfl, (by first | assumption | omega)⟩ dX0_layFrom_145
            · skip
              have c_15 := b_nle (by omega) (by omega) c_15
              refine lv_iload_n hx hb dX0_layFrom_66 rfl (lv_at hl 4 rfl) ?_
              refine lv_iload hx hb dX0_layFrom_67 (lv_at hl 0 rfl) ?_
              refine g_callSNU (nA := 2) (host := RX7) hC V hl.1 (c_isIn l D T tk (nI k57)) w_472 (List.mem_of_getElem? (i := 7) rfl) w_2 w_471 (by decide +kernel) rfl ⟨(Nat.le_of_ble_eq_true rfl), (Nat.le_of_ble_eq_true rfl)⟩ [] rfl rfl (Nat.le_of_ble_eq_true rfl) dX0_layFrom_69 ⟨(Nat.le_of_ble_eq_true rfl), (Nat.le_of_ble_eq_true rfl)⟩ rfl (fun r w1 H locs hQ V => ?_)
              rcases hQ with ⟨rfl, rfl⟩ | ⟨rfl, rfl⟩
              · have V : gW D T A s [(y0, .inr (0, [.int bv, .ref y1, .ref y2])), (y1, .inl (T 0, 7, .inl ga)), (y2, .inl (T 0, 7, .inl gb)), (a0, .inr (5, [.int (nI an), .int am, .int al, .int ao, .int au, .ref a1, .ref a2, .ref a3, .ref a4, .ref a5, .ref a6, .ref a7, .ref a8, .ref a9, .ref a10])), (a1, .inl (T 0, 10, .inl af1)), (a2, .inl (T 0, 10, .inl af2))] H locs := V _ [] rfl rfl rfl (by decide +kernel) rfl
                show W p l e _ s m args below meth c H locs _ _ _ (F0 m 72 ls [.int (nI 1)])
                refine lv_if_ne (tgt := 139) hx hb dX0_layFrom_72 (by decide) (fun _ => ?_) (fun c => absurd (show (nI 1) = 0 from c) (by decide +kernel))
                refine lv_iinc (v := (nI (k57 + 1))) (lv' := [(5, .int (nI (k57 + 1))), (0, .ref y0), (1, .ref a0), (2, .int (nI 4)), (3, .int tk), (4, .int sum)]) hx hb dX0_layFrom_139 hl (k := 0) rfl (nI_1 _) (by decide) rfl (fun ls hl => ?_)
                refine lv_goto (tgt := 57) hx hb dX0_layFrom_142 (by decide) ?_
                exact ih_57 (k57 + 1) bv ga gb (by omega) (by assumption) (by omega) _ _ _ V (lv_sub hl [0, 1, 2, 3, 4, 5] rfl)
              · have V : gW D T A s [(y0, .inr (0, [.int bv, .ref y1, .ref y2])), (y1, .inl (T 0, 7, .inl ga)), (y2, .inl (T 0, 7, .inl gb)), (a0, .inr (5, [.int (nI an), .int am, .int al, .int ao, .int au, .ref a1, .ref a2, .ref a3, .ref a4, .ref a5, .ref a6, .ref a7, .ref a8, .ref a9, .ref a10])), (a1, .inl (T 0, 10, .inl af1)), (a2, .inl (T 0, 10, .inl af2))] H locs := V _ [] rfl rfl rfl (by decide +kernel) rfl
                show W p l e _ s m args below meth c H locs _ _ _ (F0 m 72 ls [.int (nI 0)])
                refine lv_if_ne (tgt := 139) hx hb dX0_layFrom_72 (by decide) (fun c => absurd (show (nI 0) = 0 by decide +kernel) c) (fun _ => ?_)
                refine lv_aload_n hx hb dX0_layFrom_75 rfl (lv_at hl 1 rfl) ?_
                refine lv_aload_n hx hb dX0_layFrom_76 rfl (lv_at hl 2 rfl) ?_
                refine lv_iload_n hx hb dX0_layFrom_77 rfl (lv_at hl 3 rfl) ?_
                refine lv_iload hx hb dX0_layFrom_78 (lv_at hl 0 rfl) ?_
                refine g_callVU (nA := 3) hC V hl.1 (y_closes l D T y0 a0 4 k57 bv y1 y2 gb an am al ao au a1 a2 a3 a4 a5 a6 a7 a8 a9 a10 (by first | assumption | omega) hgb (by first | assumption | omega) (by first | assumption | omega)) w_810 w_812 w_s32 w_7 w_813 (by decide +kernel) rfl ⟨(Nat.le_of_ble_eq_true rfl), (Nat.le_of_ble_eq_true rfl)⟩ 0 (ci := 0) rfl rfl [0, 2, 3] rfl rfl (Nat.le_of_ble_eq_true rfl) dX0_layFrom_80 ⟨(Nat.le_of_ble_eq_true rfl), (Nat.le_of_ble_eq_true rfl)⟩ rfl (fun r w1 H locs hQ V => ?_)
                rcases hQ with ⟨rfl, rfl⟩ | ⟨rfl, rfl⟩
                · have V : gW D T A s [(y0, .inr (0, [.int bv, .ref y1, .ref y2])), (y1, .inl (T 0, 7, .inl ga)), (y2, .inl (T 0, 7, .inl gb)), (a0, .inr (5, [.int (nI an), .int am, .int al, .int ao, .int au, .ref a1, .ref a2, .ref a3, .ref a4, .ref a5, .ref a6, .ref a7, .ref a8, .ref a9, .ref a10])), (a1, .inl (T 0, 10, .inl af1)), (a2, .inl (T 0, 10, .inl af2))] H locs := V _ [0, 1, 0] rfl rfl rfl (by decide +kernel) rfl
                  show W p l e _ s m args below meth c H locs _ _ _ (F0 m 83 ls [.int (nI 1)])
                  refine lv_if_ne (tgt := 139) hx hb dX0_layFrom_83 (by decide) (fun _ => ?_) (fun c => absurd (show (nI 1) = 0 from c) (by decide +kernel))
                  refine lv_iinc (v := (nI (k57 + 1))) (lv' := [(5, .int (nI (k57 + 1))), (0, .ref y0), (1, .ref a0), (2, .int (nI 4)), (3, .int tk), (4, .int sum)]) hx hb dX0_layFrom_139 hl (k := 0) rfl (nI_1 _) (by decide) rfl (fun ls hl => ?_)
                  refine lv_goto (tgt := 57) hx hb dX0_layFrom_142 (by decide) ?_
                  exact ih_57 (k57 + 1) bv ga gb (by omega) (by assumption) (by omega) _ _ _ V (lv_sub hl [0, 1, 2, 3, 4, 5] rfl)
                · have V : gW D T A s [(y0, .inr (0, [.int bv, .ref y1, .ref y2])), (y1, .inl (T 0, 7, .inl ga)), (y2, .inl (T 0, 7, .inl gb)), (a0, .inr (5, [.int (nI an), .int am, .int al, .int ao, .int au, .ref a1, .ref a2, .ref a3, .ref a4, .ref a5, .ref a6, .ref a7, .ref a8, .ref a9, .ref a10])), (a1, .inl (T 0, 10, .inl af1)), (a2, .inl (T 0, 10, .inl af2))] H locs := V _ [0, 1, 0] rfl rfl rfl (by decide +kernel) rfl
                  show W p l e _ s m args below meth c H locs _ _ _ (F0 m 83 ls [.int (nI 0)])
                  refine lv_if_ne (tgt := 139) hx hb dX0_layFrom_83 (by decide) (fun c => absurd (show (nI 0) = 0 by decide +kernel) c) (fun _ => ?_)
                  refine lv_aload_n hx hb dX0_layFrom_86 rfl (lv_at hl 1 rfl) ?_
                  refine g_get hC V (ci := 0) uwX0 0 rfl rfl 2 (by decide) w_215 rfl rfl dX0_layFrom_87 ?_
                  refine lv_iload_n hx hb dX0_layFrom_90 rfl (lv_at hl 3 rfl) ?_
                  refine lv_iload hx hb dX0_layFrom_91 (lv_at hl 0 rfl) ?_
                  refine g_iast hC V 2 rfl (vp_in_nI (by decide) (by decide)) (f' := (upd gb 4 (nI k57))) (by rw [nI_clamp (by decide)]) (ws' := [(y0, .inr (0, [.int bv, .ref y1, .ref y2])), (y1, .inl (T 0, 7, .inl ga)), (y2, .inl (T 0, 7, .inl (upd gb 4 (nI k57)))), (a0, .inr (5, [.int (nI an), .int am, .int al, .int ao, .int au, .ref a1, .ref a2, .ref a3, .ref a4, .ref a5, .ref a6, .ref a7, .ref a8, .ref a9, .ref a10])), (a1, .inl (T 0, 10, .inl af1)), (a2, .inl (T 0, 10, .inl af2))]) rfl dX0_layFrom_93 (fun H locs V => ?_)
                  refine lv_aload_n hx hb dX0_layFrom_94 rfl (lv_at hl 2 rfl) ?_
                  refine g_get hC V (ci := 5) uwX5 3 rfl rfl 5 (by decide) w_52 rfl rfl dX0_layFrom_95 ?_
                  refine lv_iload_n hx hb dX0_layFrom_98 rfl (lv_at hl 3 rfl) ?_
                  refine g_iald hC V 4 rfl (vp_in_nI (by decide) (by decide)) (v := (af1 4)) (congrArg _ (nI_clamp (by decide))) dX0_layFrom_99 ?_
                  refine lv_aload_n hx hb dX0_layFrom_100 rfl (lv_at hl 2 rfl) ?_
                  refine g_get hC V (ci := 5) uwX5 3 rfl rfl 6 (by decide) w_58 rfl rfl dX0_layFrom_101 ?_
                  refine lv_iload hx hb dX0_layFrom_104 (lv_at hl 0 rfl) ?_
                  refine g_iald hC V 5 rfl (vp_in_nI (by omega) (by omega)) (v := (af2 k57)) (congrArg _ (nI_clamp (by omega))) dX0_layFrom_106 ?_
                  refine lv_isub hx hb dX0_layFrom_107 ?_
                  refine va_mabs hx hb (hml.trans hl.1.symm) hown (hts _ w_814) (hts _ w_815) (hts _ w_10) (hts _ w_816) (Nat.le_of_ble_eq_true rfl) (Nat.le_of_ble_eq_true rfl) (Nat.le_of_ble_eq_true rfl) (Nat.le_of_ble_eq_true rfl) dX0_layFrom_108 ?_
                  refine lv_topi (fun x_16 ex_16 => ?_)
                  refine lv_istore (lv' := [(6, .int x_16), (5, .int (nI k57)), (0, .ref y0), (1, .ref a0), (2, .int (nI 4)), (3, .int tk), (4, .int sum)]) hx hb dX0_layFrom_111 hl (by decide) rfl (fun ls hl => ?_)
                  refine lv_aload_n hx hb dX0_layFrom_113 rfl (lv_at hl 2 rfl) ?_
                  refine lv_aload_n hx hb dX0_layFrom_114 rfl (lv_at hl 3 rfl) ?_
                  refine lv_iload_n hx hb dX0_layFrom_115 rfl (lv_at hl 4 rfl) ?_
                  refine lv_iconst (v := (nI 1)) hx hb dX0_layFrom_116 (by decide +kernel) ?_
                  refine lv_iadd hx hb dX0_layFrom_117 ?_
                  refine g_vi (y := (nI 5)) (by decide +kernel) ?_
                  refine lv_iload_n hx hb dX0_layFrom_118 rfl (lv_at hl 5 rfl) ?_
                  refine lv_iconst (v := (nI 1)) hx hb dX0_layFrom_119 (by decide +kernel) ?_
                  refine lv_iload hx hb dX0_layFrom_120 (lv_at hl 1 rfl) ?_
                  refine lv_ishl hx hb dX0_layFrom_122 ?_
                  refine lv_ior hx hb dX0_layFrom_123 ?_
                  refine lv_iload hx hb dX0_layFrom_124 (lv_at hl 6 rfl) ?_
                  refine lv_iload hx hb dX0_layFrom_126 (lv_at hl 0 rfl) ?_
                  refine lv_iadd hx hb dX0_layFrom_128 ?_
                  refine g_callV (wr := []) (nA := 4) hC V hl.1 (y_lay5 l D T y0 a0 (tk ||| ((nI 1) <<< ((nI k57) &&& 31))) (sum + x_16) bv y1 y2 ga (upd gb 4 (nI k57)) an am al ao au a1 a2 a3 a4 a5 a6 a7 a8 a9 a10 af1 af2 (by first | assumption | omega) (up_all (p := fun x => x = -1 ∨ bd x 7) hgb (fun _ => Or.inr (bd_nI (by omega))))) w_804 w_806 w_s31 w_7 w_807 (by decide +kernel) rfl ⟨(Nat.le_of_ble_eq_true rfl), (Nat.le_of_ble_eq_true rfl)⟩ 0 (ci := 0) rfl rfl [0, 1, 2, 3, 4, 5] [] rfl rfl rfl rfl (by decide) (Nat.le_of_ble_eq_true rfl) dX0_layFrom_129 ⟨(Nat.le_of_ble_eq_true rfl), (Nat.le_of_ble_eq_true rfl)⟩ rfl (fun r w1 H locs hQ V => ?_)
                  obtain ⟨bs_17, g1_18, g2_19, rfl, rfl, f_20⟩ := hQ
                  have V : gW D T A s [(y0, .inr (0, [.int bs_17, .ref y1, .ref y2])), (y1, .inl (T 0, 7, .inl g1_18)), (y2, .inl (T 0, 7, .inl g2_19)), (a0, .inr (5, [.int (nI an), .int am, .int al, .int ao, .int au, .ref a1, .ref a2, .ref a3, .ref a4, .ref a5, .ref a6, .ref a7, .ref a8, .ref a9, .ref a10])), (a1, .inl (T 0, 10, .inl af1)), (a2, .inl (T 0, 10, .inl af2))] H locs := V
                  show W p l e _ s m args below meth c H locs _ _ _ (F0 m 132 ls [])
                  have hq := up_all (p := fun x => x = -1 ∨ bd x 7) (k := 4) (x := -1) f_20 (fun _ => Or.inl rfl)
                  refine lv_aload_n hx hb dX0_layFrom_132 rfl (lv_at hl 2 rfl) ?_
                  refine g_get hC V (ci := 0) uwX0 0 rfl rfl 2 (by decide) w_215 rfl rfl dX0_layFrom_133 ?_
                  refine lv_iload_n hx hb dX0_layFrom_136 rfl (lv_at hl 4 rfl) ?_
                  refine lv_iconst (v := (-1)) hx hb dX0_layFrom_137 (by decide +kernel) ?_
                  refine g_iast hC V 2 rfl (vp_in_nI (by decide) (by decide)) (f' := (upd g2_19 4 (-1))) (by rw [nI_clamp (by decide)]) (ws' := [(y0, .inr (0, [.int bs_17, .ref y1, .ref y2])), (y1, .inl (T 0, 7, .inl g1_18)), (y2, .inl (T 0, 7, .inl (upd g2_19 4 (-1)))), (a0, .inr (5, [.int (nI an), .int am, .int al, .int ao, .int au, .ref a1, .ref a2, .ref a3, .ref a4, .ref a5, .ref a6, .ref a7, .ref a8, .ref a9, .ref a10])), (a1, .inl (T 0, 10, .inl af1)), (a2, .inl (T 0, 10, .inl af2))]) rfl dX0_layFrom_138 (fun H locs V => ?_)
                  refine lv_iinc (v := (nI (k57 + 1))) (lv' := [(5, .int (nI (k57 + 1))), (6, .int x_16), (0, .ref y0), (1, .ref a0), (2, .int (nI 4)), (3, .int tk), (4, .int sum)]) hx hb dX0_layFrom_139 hl (k := 1) rfl (nI_1 _) (by decide) rfl (fun ls hl => ?_)
                  refine lv_goto (tgt := 57) hx hb dX0_layFrom_142 (by decide) ?_
                  exact ih_57 (k57 + 1) bs_17 g1_18 (upd g2_19 4 (-1)) (by omega) (by assumption) (by omega) _ _ _ V (lv_sub hl [0, 2, 3, 4, 5, 6] rfl)
        exact L_14 _ 0 ys yb yt (by omega) h_yt (Nat.lt_succ_self _) _ _ _ V (lv_sub hl [0, 1, 2, 3, 4, 5] rfl)
    · skip
      exact g_vret (Qr := (q_y_lay4 T y0 a0 tk sum ys y1 y2 yb yt an am al ao au a1 a2 a3 a4 a5 a6 a7 a8 a9 a10 af1 af2)) hC V ⟨(Nat.le_of_ble_eq_true rfl), (Nat.le_of_ble_eq_true rfl)⟩ ⟨ys, yb, yt, rfl, rfl, (by first | assumption | omega)⟩ dX0_layFrom_17

def q_y_lay3 (T : Nat → ClassId) (y0 : Nat) (a0 : Nat) (tk : Int32) (sum : Int32) (ys : Int32) (y1 : Nat) (y2 : Nat) (yb : Nat → Int32) (yt : Nat → Int32) (an : Nat) (am : Int32) (al : Int32) (ao : Int32) (au : Int32) (a1 : Nat) (a2 : Nat) (a3 : Nat) (a4 : Nat) (a5 : Nat) (a6 : Nat) (a7 : Nat) (a8 : Nat) (a9 : Nat) (a10 : Nat) (af1 : Nat → Int32) (af2 : Nat → Int32) : Option Value → va_W → Prop := fun rr ww => (∃ (bs : Int32) (g1 : Nat → Int32) (g2 : Nat → Int32), rr = none ∧ ww = [(y0, .inr (0, [.int bs, .ref y1, .ref y2])), (y1, .inl (T 0, 7, .inl g1)), (y2, .inl (T 0, 7, .inl g2)), (a0, .inr (5, [.int (nI an), .int am, .int al, .int ao, .int au, .ref a1, .ref a2, .ref a3, .ref a4, .ref a5, .ref a6, .ref a7, .ref a8, .ref a9, .ref a10])), (a1, .inl (T 0, 10, .inl af1)), (a2, .inl (T 0, 10, .inl af2))] ∧ (∀ i, i < 7 → (g2 i = -1 ∨ bd (g2 i) 7)))
set_option maxHeartbeats 4000000 in
set_option maxRecDepth 100000 in
theorem y_lay3 (l : Launch) (D : va_G) (T : Nat → ClassId) (y0 : Nat) (a0 : Nat) (tk : Int32) (sum : Int32) (ys : Int32) (y1 : Nat) (y2 : Nat) (yb : Nat → Int32) (yt : Nat → Int32) (an : Nat) (am : Int32) (al : Int32) (ao : Int32) (au : Int32) (a1 : Nat) (a2 : Nat) (a3 : Nat) (a4 : Nat) (a5 : Nat) (a6 : Nat) (a7 : Nat) (a8 : Nat) (a9 : Nat) (a10 : Nat) (af1 : Nat → Int32) (af2 : Nat → Int32) (h_n : an ≤ 7) (h_yt : ∀ i, i < 7 → (yt i = -1 ∨ bd (yt i) 7)) : Ct l yX0_layFrom cX0_layFrom 7 none 6 0 0 D T [.ref y0, .ref a0, .int (nI 3), .int tk, .int sum] [(y0, .inr (0, [.int ys, .ref y1, .ref y2])), (y1, .inl (T 0, 7, .inl yb)), (y2, .inl (T 0, 7, .inl yt)), (a0, .inr (5, [.int (nI an), .int am, .int al, .int ao, .int au, .ref a1, .ref a2, .ref a3, .ref a4, .ref a5, .ref a6, .ref a7, .ref a8, .ref a9, .ref a10])), (a1, .inl (T 0, 10, .inl af1)), (a2, .inl (T 0, 10, .inl af2))] (q_y_lay3 T y0 a0 tk sum ys y1 y2 yb yt an am al ao au a1 a2 a3 a4 a5 a6 a7 a8 a9 a10 af1 af2) := by
  refine Ct.of (cc := cX0_layFrom) (maxL := 7) (ret := none) (by decide) (Nat.le_of_ble_eq_true rfl) ?_
  intro p e s m args below meth c A ls hC hnm V hl
  obtain ⟨hx, hb, hr, hml, hown, hts, hlocks⟩ := id hC
  generalize hH : s.heap = H at V ⊢
  clear hH
  have hl : lv_has ls 7 [(0, .ref y0), (1, .ref a0), (2, .int (nI 3)), (3, .int tk), (4, .int sum)] := hl
  generalize hlo : ([] : List Loc) = locs at V ⊢
  clear hlo
  refine lv_aload_n hx hb dX0_layFrom_0 rfl (lv_at hl 0 rfl) ?_
  refine g_get hC V (ci := 0) uwX0 0 rfl rfl 0 (by decide) w_211 rfl rfl dX0_layFrom_1 ?_
  refine lv_iconst (v := (-1)) hx hb dX0_layFrom_4 (by decide +kernel) ?_
  refine lv_icmp_eq (tgt := 18) hx hb dX0_layFrom_5 (by decide) (fun c_1 => ?_) (fun c_1 => ?_)
  · skip
    refine lv_iload_n hx hb dX0_layFrom_18 rfl (lv_at hl 2 rfl) ?_
    refine lv_aload_n hx hb dX0_layFrom_19 rfl (lv_at hl 1 rfl) ?_
    refine g_get hC V (ci := 5) uwX5 3 rfl rfl 0 (by decide) w_35 rfl rfl dX0_layFrom_20 ?_
    refine lv_icmp_ge (tgt := 32) hx hb dX0_layFrom_23 (by decide) (fun c_2 => ?_) (fun c_2 => ?_)
    · skip
      have c_2 := b_le (by omega) (by omega) c_2
      refine lv_aload_n hx hb dX0_layFrom_32 rfl (lv_at hl 0 rfl) ?_
      refine lv_iload hx hb dX0_layFrom_33 (lv_at hl 4 rfl) ?_
      refine g_put hC V (ci := 0) uwX0 tyX0 tyX0_ok nmX0 0 rfl rfl 0 (by decide) w_211 rfl rfl rfl rfl (Nat.le_of_ble_eq_true rfl) (ws' := [(y0, .inr (0, [.int sum, .ref y1, .ref y2])), (y1, .inl (T 0, 7, .inl yb)), (y2, .inl (T 0, 7, .inl yt)), (a0, .inr (5, [.int (nI an), .int am, .int al, .int ao, .int au, .ref a1, .ref a2, .ref a3, .ref a4, .ref a5, .ref a6, .ref a7, .ref a8, .ref a9, .ref a10])), (a1, .inl (T 0, 10, .inl af1)), (a2, .inl (T 0, 10, .inl af2))]) rfl dX0_layFrom_35 (fun H locs V => ?_)
      refine lv_aload_n hx hb dX0_layFrom_38 rfl (lv_at hl 0 rfl) ?_
      refine g_get hC V (ci := 0) uwX0 0 rfl rfl 2 (by decide) w_215 rfl rfl dX0_layFrom_39 ?_
      refine lv_iconst (v := (nI 0)) hx hb dX0_layFrom_42 (by decide +kernel) ?_
      refine lv_aload_n hx hb dX0_layFrom_43 rfl (lv_at hl 0 rfl) ?_
      refine g_get hC V (ci := 0) uwX0 0 rfl rfl 1 (by decide) w_213 rfl rfl dX0_layFrom_44 ?_
      refine lv_iconst (v := (nI 0)) hx hb dX0_layFrom_47 (by decide +kernel) ?_
      refine lv_bipush (v := (nI 7)) hx hb dX0_layFrom_48 (by decide +kernel) ?_
      refine g_copyi hC V hl.1 w_808 w_672 w_671 w_17 2 1 rfl rfl (by decide +kernel) (by decide +kernel) (Nat.le_of_ble_eq_true rfl) (Nat.le_of_ble_eq_true rfl) (Nat.le_of_ble_eq_true rfl) dX0_layFrom_50 (fun g_3 H locs V => ?_)
      have V : gW D T A s [(y0, .inr (0, [.int sum, .ref y1, .ref y2])), (y1, .inl (T 0, 7, .inl g_3)), (y2, .inl (T 0, 7, .inl yt)), (a0, .inr (5, [.int (nI an), .int am, .int al, .int ao, .int au, .ref a1, .ref a2, .ref a3, .ref a4, .ref a5, .ref a6, .ref a7, .ref a8, .ref a9, .ref a10])), (a1, .inl (T 0, 10, .inl af1)), (a2, .inl (T 0, 10, .inl af2))] H locs := V
      exact g_vret (Qr := (q_y_lay3 T y0 a0 tk sum ys y1 y2 yb yt an am al ao au a1 a2 a3 a4 a5 a6 a7 a8 a9 a10 af1 af2)) hC V ⟨(Nat.le_of_ble_eq_true rfl), (Nat.le_of_ble_eq_true rfl)⟩ ⟨sum, g_3, yt, rfl, rfl, (by first | assumption | omega)⟩ dX0_layFrom_53
    · skip
      have c_2 := b_nle (by omega) (by omega) c_2
      refine lv_iload_n hx hb dX0_layFrom_26 rfl (lv_at hl 2 rfl) ?_
      refine lv_bipush (v := (nI 7)) hx hb dX0_layFrom_27 (by decide +kernel) ?_
      refine lv_icmp_lt (tgt := 54) hx hb dX0_layFrom_29 (by decide) (fun _ => ?_) (fun c => absurd (show (nI 3) < (nI 7) by first | rfl | decide +kernel) c)
      refine lv_iconst (v := (nI 0)) hx hb dX0_layFrom_54 (by decide +kernel) ?_
      refine lv_istore (lv' := [(5, .int (nI 0)), (0, .ref y0), (1, .ref a0), (2, .int (nI 3)), (3, .int tk), (4, .int sum)]) hx hb dX0_layFrom_55 hl (by decide) rfl (fun ls hl => ?_)
      have L_4 : ∀ (fu : Nat) (k57 : Nat) (bv : Int32) (ga : Nat → Int32) (gb : Nat → Int32), k57 ≤ an → (∀ i, i < 7 → (gb i = -1 ∨ bd (gb i) 7)) → an - k57 < fu → ∀ (H : Heap) (locs : List Loc) (ls : Array Slot), gW D T A s [(y0, .inr (0, [.int bv, .ref y1, .ref y2])), (y1, .inl (T 0, 7, .inl ga)), (y2, .inl (T 0, 7, .inl gb)), (a0, .inr (5, [.int (nI an), .int am, .int al, .int ao, .int au, .ref a1, .ref a2, .ref a3, .ref a4, .ref a5, .ref a6, .ref a7, .ref a8, .ref a9, .ref a10])), (a1, .inl (T 0, 10, .inl af1)), (a2, .inl (T 0, 10, .inl af2))] H locs → lv_has ls 7 [(5, .int (nI k57)), (0, .ref y0), (1, .ref a0), (2, .int (nI 3)), (3, .int tk), (4, .int sum)] → W p l e (rmD 6 0 0) s m args below meth c H locs 0 0 (MQ below (gQ D A (q_y_lay3 T y0 a0 tk sum ys y1 y2 yb yt an am al ao au a1 a2 a3 a4 a5 a6 a7 a8 a9 a10 af1 af2)) args s 0 0 A) (F0 m 57 ls []) := by
        intro fu_57
        induction fu_57 with
        | zero => intro k57 bv ga gb hk57 hgb hmu; exact absurd hmu (Nat.not_lt_zero _)
        | succ fu_57 ih_57 =>
          intro k57 bv ga gb hk57 hgb hmu_57 H locs ls V hl
          refine lv_iload hx hb dX0_layFrom_57 (lv_at hl 0 rfl) ?_
          refine lv_aload_n hx hb dX0_layFrom_59 rfl (lv_at hl 2 rfl) ?_
          refine g_get hC V (ci := 5) uwX5 3 rfl rfl 0 (by decide) w_35 rfl rfl dX0_layFrom_60 ?_
          refine lv_icmp_ge (tgt := 145) hx hb dX0_layFrom_63 (by decide) (fun c_5 => ?_) (fun c_5 => ?_)
          · skip
            have c_5 := b_le (by omega) (by omega) c_5
            exact g_vret (Qr := (q_y_lay3 T y0 a0 tk sum ys y1 y2 yb yt an am al ao au a1 a2 a3 a4 a5 a6 a7 a8 a9 a10 af1 af2)) hC V ⟨(Nat.le_of_ble_eq_true rfl), (Nat.le_of_ble_eq_true rfl)⟩ ⟨bv, ga, gb, rfl, rfl, (by first | assumption | omega)⟩ dX0_layFrom_145
          · skip
            have c_5 := b_nle (by omega) (by omega) c_5
            refine lv_iload_n hx hb dX0_layFrom_66 rfl (lv_at hl 4 rfl) ?_
            refine lv_iload hx hb dX0_layFrom_67 (lv_at hl 0 rfl) ?_
            refine g_callSNU (nA := 2) (host := RX7) hC V hl.1 (c_isIn l D T tk (nI k57)) w_472 (List.mem_of_getElem? (i := 7) rfl) w_2 w_471 (by decide +kernel) rfl ⟨(Nat.le_of_ble_eq_true rfl), (Nat.le_of_ble_eq_true rfl)⟩ [] rfl rfl (Nat.le_of_ble_eq_true rfl) dX0_layFrom_69 ⟨(Nat.le_of_ble_eq_true rfl), (Nat.le_of_ble_eq_true rfl)⟩ rfl (fun r w1 H locs hQ V => ?_)
            rcases hQ with ⟨rfl, rfl⟩ | ⟨rfl, rfl⟩
            · have V : gW D T A s [(y0, .inr (0, [.int bv, .ref y1, .ref y2])), (y1, .inl (T 0, 7, .inl ga)), (y2, .inl (T 0, 7, .inl gb)), (a0, .inr (5, [.int (nI an), .int am, .int al, .int ao, .int au, .ref a1, .ref a2, .ref a3, .ref a4, .ref a5, .ref a6, .ref a7, .ref a8, .ref a9, .ref a10])), (a1, .inl (T 0, 10, .inl af1)), (a2, .inl (T 0, 10, .inl af2))] H locs := V _ [] rfl rfl rfl (by decide +kernel) rfl
              show W p l e _ s m args below meth c H locs _ _ _ (F0 m 72 ls [.int (nI 1)])
              refine lv_if_ne (tgt := 139) hx hb dX0_layFrom_72 (by decide) (fun _ => ?_) (fun c => absurd (show (nI 1) = 0 from c) (by decide +kernel))
              refine lv_iinc (v := (nI (k57 + 1))) (lv' := [(5, .int (nI (k57 + 1))), (0, .ref y0), (1, .ref a0), (2, .int (nI 3)), (3, .int tk), (4, .int sum)]) hx hb dX0_layFrom_139 hl (k := 0) rfl (nI_1 _) (by decide) rfl (fun ls hl => ?_)
              refine lv_goto (tgt := 57) hx hb dX0_layFrom_142 (by decide) ?_
              exact ih_57 (k57 + 1) bv ga gb (by omega) (by assumption) (by omega) _ _ _ V (lv_sub hl [0, 1, 2, 3, 4, 5] rfl)
            · have V : gW D T A s [(y0, .inr (0, [.int bv, .ref y1, .ref y2])), (y1, .inl (T 0, 7, .inl ga)), (y2, .inl (T 0, 7, .inl gb)), (a0, .inr (5, [.int (nI an), .int am, .int al, .int ao, .int au, .ref a1, .ref a2, .ref a3, .ref a4, .ref a5, .ref a6, .ref a7, .ref a8, .ref a9, .ref a10])), (a1, .inl (T 0, 10, .inl af1)), (a2, .inl (T 0, 10, .inl af2))] H locs := V _ [] rfl rfl rfl (by decide +kernel) rfl
              show W p l e _ s m args below meth c H locs _ _ _ (F0 m 72 ls [.int (nI 0)])
              refine lv_if_ne (tgt := 139) hx hb dX0_layFrom_72 (by decide) (fun c => absurd (show (nI 0) = 0 by decide +kernel) c) (fun _ => ?_)
              refine lv_aload_n hx hb dX0_layFrom_75 rfl (lv_at hl 1 rfl) ?_
              refine lv_aload_n hx hb dX0_layFrom_76 rfl (lv_at hl 2 rfl) ?_
              refine lv_iload_n hx hb dX0_layFrom_77 rfl (lv_at hl 3 rfl) ?_
              refine lv_iload hx hb dX0_layFrom_78 (lv_at hl 0 rfl) ?_
              refine g_callVU (nA := 3) hC V hl.1 (y_closes l D T y0 a0 3 k57 bv y1 y2 gb an am al ao au a1 a2 a3 a4 a5 a6 a7 a8 a9 a10 (by first | assumption | omega) hgb (by first | assumption | omega) (by first | assumption | omega)) w_810 w_812 w_s32 w_7 w_813 (by decide +kernel) rfl ⟨(Nat.le_of_ble_eq_true rfl), (Nat.le_of_ble_eq_true rfl)⟩ 0 (ci := 0) rfl rfl [0, 2, 3] rfl rfl (Nat.le_of_ble_eq_true rfl) dX0_layFrom_80 ⟨(Nat.le_of_ble_eq_true rfl), (Nat.le_of_ble_eq_true rfl)⟩ rfl (fun r w1 H locs hQ V => ?_)
              rcases hQ with ⟨rfl, rfl⟩ | ⟨rfl, rfl⟩
              · have V : gW D T A s [(y0, .inr (0, [.int bv, .ref y1, .ref y2])), (y1, .inl (T 0, 7, .inl ga)), (y2, .inl (T 0, 7, .inl gb)), (a0, .inr (5, [.int (nI an), .int am, .int al, .int ao, .int au, .ref a1, .ref a2, .ref a3, .ref a4, .ref a5, .ref a6, .ref a7, .ref a8, .ref a9, .ref a10])), (a1, .inl (T 0, 10, .inl af1)), (a2, .inl (T 0, 10, .inl af2))] H locs := V _ [0, 1, 0] rfl rfl rfl (by decide +kernel) rfl
                show W p l e _ s m args below meth c H locs _ _ _ (F0 m 83 ls [.int (nI 1)])
                refine lv_if_ne (tgt := 139) hx hb dX0_layFrom_83 (by decide) (fun _ => ?_) (fun c => absurd (show (nI 1) = 0 from c) (by decide +kernel))
                refine lv_iinc (v := (nI (k57 + 1))) (lv' := [(5, .int (nI (k57 + 1))), (0, .ref y0), (1, .ref a0), (2, .int (nI 3)), (3, .int tk), (4, .int sum)]) hx hb dX0_layFrom_139 hl (k := 0) rfl (nI_1 _) (by decide) rfl (fun ls hl => ?_)
                refine lv_goto (tgt := 57) hx hb dX0_layFrom_142 (by decide) ?_
                exact ih_57 (k57 + 1) bv ga gb (by omega) (by assumption) (by omega) _ _ _ V (lv_sub hl [0, 1, 2, 3, 4, 5] rfl)
              · have V : gW D T A s [(y0, .inr (0, [.int bv, .ref y1, .ref y2])), (y1, .inl (T 0, 7, .inl ga)), (y2, .inl (T 0, 7, .inl gb)), (a0, .inr (5, [.int (nI an), .int am, .int al, .int ao, .int au, .ref a1, .ref a2, .ref a3, .ref a4, .ref a5, .ref a6, .ref a7, .ref a8, .ref a9, .ref a10])), (a1, .inl (T 0, 10, .inl af1)), (a2, .inl (T 0, 10, .inl af2))] H locs := V _ [0, 1, 0] rfl rfl rfl (by decide +kernel) rfl
                show W p l e _ s m args below meth c H locs _ _ _ (F0 m 83 ls [.int (nI 0)])
                refine lv_if_ne (tgt := 139) hx hb dX0_layFrom_83 (by decide) (fun c => absurd (show (nI 0) = 0 by decide +kernel) c) (fun _ => ?_)
                refine lv_aload_n hx hb dX0_layFrom_86 rfl (lv_at hl 1 rfl) ?_
                refine g_get hC V (ci := 0) uwX0 0 rfl rfl 2 (by decide) w_215 rfl rfl dX0_layFrom_87 ?_
                refine lv_iload_n hx hb dX0_layFrom_90 rfl (lv_at hl 3 rfl) ?_
                refine lv_iload hx hb dX0_layFrom_91 (lv_at hl 0 rfl) ?_
                refine g_iast hC V 2 rfl (vp_in_nI (by decide) (by decide)) (f' := (upd gb 3 (nI k57))) (by rw [nI_clamp (by decide)]) (ws' := [(y0, .inr (0, [.int bv, .ref y1, .ref y2])), (y1, .inl (T 0, 7, .inl ga)), (y2, .inl (T 0, 7, .inl (upd gb 3 (nI k57)))), (a0, .inr (5, [.int (nI an), .int am, .int al, .int ao, .int au, .ref a1, .ref a2, .ref a3, .ref a4, .ref a5, .ref a6, .ref a7, .ref a8, .ref a9, .ref a10])), (a1, .inl (T 0, 10, .inl af1)), (a2, .inl (T 0, 10, .inl af2))]) rfl dX0_layFrom_93 (fun H locs V => ?_)
                refine lv_aload_n hx hb dX0_layFrom_94 rfl (lv_at hl 2 rfl) ?_
                refine g_get hC V (ci := 5) uwX5 3 rfl rfl 5 (by decide) w_52 rfl rfl dX0_layFrom_95 ?_
                refine lv_iload_n hx hb dX0_layFrom_98 rfl (lv_at hl 3 rfl) ?_
                refine g_iald hC V 4 rfl (vp_in_nI (by decide) (by decide)) (v := (af1 3)) (congrArg _ (nI_clamp (by decide))) dX0_layFrom_99 ?_
                refine lv_aload_n hx hb dX0_layFrom_100 rfl (lv_at hl 2 rfl) ?_
                refine g_get hC V (ci := 5) uwX5 3 rfl rfl 6 (by decide) w_58 rfl rfl dX0_layFrom_101 ?_
                refine lv_iload hx hb dX0_layFrom_104 (lv_at hl 0 rfl) ?_
                refine g_iald hC V 5 rfl (vp_in_nI (by omega) (by omega)) (v := (af2 k57)) (congrArg _ (nI_clamp (by omega))) dX0_layFrom_106 ?_
                refine lv_isub hx hb dX0_layFrom_107 ?_
                refine va_mabs hx hb (hml.trans hl.1.symm) hown (hts _ w_814) (hts _ w_815) (hts _ w_10) (hts _ w_816) (Nat.le_of_ble_eq_true rfl) (Nat.le_of_ble_eq_true rfl) (Nat.le_of_ble_eq_true rfl) (Nat.le_of_ble_eq_true rfl) dX0_layFrom_108 ?_
                refine lv_topi (fun x_6 ex_6 => ?_)
                refine lv_istore (lv' := [(6, .int x_6), (5, .int (nI k57)), (0, .ref y0), (1, .ref a0), (2, .int (nI 3)), (3, .int tk), (4, .int sum)]) hx hb dX0_layFrom_111 hl (by decide) rfl (fun ls hl => ?_)
                refine lv_aload_n hx hb dX0_layFrom_113 rfl (lv_at hl 2 rfl) ?_
                refine lv_aload_n hx hb dX0_layFrom_114 rfl (lv_at hl 3 rfl) ?_
                refine lv_iload_n hx hb dX0_layFrom_115 rfl (lv_at hl 4 rfl) ?_
                refine lv_iconst (v := (nI 1)) hx hb dX0_layFrom_116 (by decide +kernel) ?_
                refine lv_iadd hx hb dX0_layFrom_117 ?_
                refine g_vi (y := (nI 4)) (by decide +kernel) ?_
                refine lv_iload_n hx hb dX0_layFrom_118 rfl (lv_at hl 5 rfl) ?_
                refine lv_iconst (v := (nI 1)) hx hb dX0_layFrom_119 (by decide +kernel) ?_
                refine lv_iload hx hb dX0_layFrom_120 (lv_at hl 1 rfl) ?_
                refine lv_ishl hx hb dX0_layFrom_122 ?_
                refine lv_ior hx hb dX0_layFrom_123 ?_
                refine lv_iload hx hb dX0_layFrom_124 (lv_at hl 6 rfl) ?_
                refine lv_iload hx hb dX0_layFrom_126 (lv_at hl 0 rfl) ?_
                refine lv_iadd hx hb dX0_layFrom_128 ?_
                refine g_callV (wr := []) (nA := 4) hC V hl.1 (y_lay4 l D T y0 a0 (tk ||| ((nI 1) <<< ((nI k57) &&& 31))) (sum + x_6) bv y1 y2 ga (upd gb 3 (nI k57)) an am al ao au a1 a2 a3 a4 a5 a6 a7 a8 a9 a10 af1 af2 (by first | assumption | omega) (up_all (p := fun x => x = -1 ∨ bd x 7) hgb (fun _ => Or.inr (bd_nI (by omega))))) w_804 w_806 w_s31 w_7 w_807 (by decide +kernel) rfl ⟨(Nat.le_of_ble_eq_true rfl), (Nat.le_of_ble_eq_true rfl)⟩ 0 (ci := 0) rfl rfl [0, 1, 2, 3, 4, 5] [] rfl rfl rfl rfl (by decide) (Nat.le_of_ble_eq_true rfl) dX0_layFrom_129 ⟨(Nat.le_of_ble_eq_true rfl), (Nat.le_of_ble_eq_true rfl)⟩ rfl (fun r w1 H locs hQ V => ?_)
                obtain ⟨bs_7, g1_8, g2_9, rfl, rfl, f_10⟩ := hQ
                have V : gW D T A s [(y0, .inr (0, [.int bs_7, .ref y1, .ref y2])), (y1, .inl (T 0, 7, .inl g1_8)), (y2, .inl (T 0, 7, .inl g2_9)), (a0, .inr (5, [.int (nI an), .int am, .int al, .int ao, .int au, .ref a1, .ref a2, .ref a3, .ref a4, .ref a5, .ref a6, .ref a7, .ref a8, .ref a9, .ref a10])), (a1, .inl (T 0, 10, .inl af1)), (a2, .inl (T 0, 10, .inl af2))] H locs := V
                show W p l e _ s m args below meth c H locs _ _ _ (F0 m 132 ls [])
                have hq := up_all (p := fun x => x = -1 ∨ bd x 7) (k := 3) (x := -1) f_10 (fun _ => Or.inl rfl)
                refine lv_aload_n hx hb dX0_layFrom_132 rfl (lv_at hl 2 rfl) ?_
                refine g_get hC V (ci := 0) uwX0 0 rfl rfl 2 (by decide) w_215 rfl rfl dX0_layFrom_133 ?_
                refine lv_iload_n hx hb dX0_layFrom_136 rfl (lv_at hl 4 rfl) ?_
                refine lv_iconst (v := (-1)) hx hb dX0_layFrom_137 (by decide +kernel) ?_
                refine g_iast hC V 2 rfl (vp_in_nI (by decide) (by decide)) (f' := (upd g2_9 3 (-1))) (by rw [nI_clamp (by decide)]) (ws' := [(y0, .inr (0, [.int bs_7, .ref y1, .ref y2])), (y1, .inl (T 0, 7, .inl g1_8)), (y2, .inl (T 0, 7, .inl (upd g2_9 3 (-1)))), (a0, .inr (5, [.int (nI an), .int am, .int al, .int ao, .int au, .ref a1, .ref a2, .ref a3, .ref a4, .ref a5, .ref a6, .ref a7, .ref a8, .ref a9, .ref a10])), (a1, .inl (T 0, 10, .inl af1)), (a2, .inl (T 0, 10, .inl af2))]) rfl dX0_layFrom_138 (fun H locs V => ?_)
                refine lv_iinc (v := (nI (k57 + 1))) (lv' := [(5, .int (nI (k57 + 1))), (6, .int x_6), (0, .ref y0), (1, .ref a0), (2, .int (nI 3)), (3, .int tk), (4, .int sum)]) hx hb dX0_layFrom_139 hl (k := 1) rfl (nI_1 _) (by decide) rfl (fun ls hl => ?_)
                refine lv_goto (tgt := 57) hx hb dX0_layFrom_142 (by decide) ?_
                exact ih_57 (k57 + 1) bs_7 g1_8 (upd g2_9 3 (-1)) (by omega) (by assumption) (by omega) _ _ _ V (lv_sub hl [0, 2, 3, 4, 5, 6] rfl)
      exact L_4 _ 0 ys yb yt (by omega) h_yt (Nat.lt_succ_self _) _ _ _ V (lv_sub hl [0, 1, 2, 3, 4, 5] rfl)
  · skip
    refine lv_iload hx hb dX0_layFrom_8 (lv_at hl 4 rfl) ?_
    refine lv_aload_n hx hb dX0_layFrom_10 rfl (lv_at hl 0 rfl) ?_
    refine g_get hC V (ci := 0) uwX0 0 rfl rfl 0 (by decide) w_211 rfl rfl dX0_layFrom_11 ?_
    refine lv_icmp_lt (tgt := 18) hx hb dX0_layFrom_14 (by decide) (fun c_11 => ?_) (fun c_11 => ?_)
    · skip
      refine lv_iload_n hx hb dX0_layFrom_18 rfl (lv_at hl 2 rfl) ?_
      refine lv_aload_n hx hb dX0_layFrom_19 rfl (lv_at hl 1 rfl) ?_
      refine g_get hC V (ci := 5) uwX5 3 rfl rfl 0 (by decide) w_35 rfl rfl dX0_layFrom_20 ?_
      refine lv_icmp_ge (tgt := 32) hx hb dX0_layFrom_23 (by decide) (fun c_12 => ?_) (fun c_12 => ?_)
      · skip
        have c_12 := b_le (by omega) (by omega) c_12
        refine lv_aload_n hx hb dX0_layFrom_32 rfl (lv_at hl 0 rfl) ?_
        refine lv_iload hx hb dX0_layFrom_33 (lv_at hl 4 rfl) ?_
        refine g_put hC V (ci := 0) uwX0 tyX0 tyX0_ok nmX0 0 rfl rfl 0 (by decide) w_211 rfl rfl rfl rfl (Nat.le_of_ble_eq_true rfl) (ws' := [(y0, .inr (0, [.int sum, .ref y1, .ref y2])), (y1, .inl (T 0, 7, .inl yb)), (y2, .inl (T 0, 7, .inl yt)), (a0, .inr (5, [.int (nI an), .int am, .int al, .int ao, .int au, .ref a1, .ref a2, .ref a3, .ref a4, .ref a5, .ref a6, .ref a7, .ref a8, .ref a9, .ref a10])), (a1, .inl (T 0, 10, .inl af1)), (a2, .inl (T 0, 10, .inl af2))]) rfl dX0_layFrom_35 (fun H locs V => ?_)
        refine lv_aload_n hx hb dX0_layFrom_38 rfl (lv_at hl 0 rfl) ?_
        refine g_get hC V (ci := 0) uwX0 0 rfl rfl 2 (by decide) w_215 rfl rfl dX0_layFrom_39 ?_
        refine lv_iconst (v := (nI 0)) hx hb dX0_layFrom_42 (by decide +kernel) ?_
        refine lv_aload_n hx hb dX0_layFrom_43 rfl (lv_at hl 0 rfl) ?_
        refine g_get hC V (ci := 0) uwX0 0 rfl rfl 1 (by decide) w_213 rfl rfl dX0_layFrom_44 ?_
        refine lv_iconst (v := (nI 0)) hx hb dX0_layFrom_47 (by decide +kernel) ?_
        refine lv_bipush (v := (nI 7)) hx hb dX0_layFrom_48 (by decide +kernel) ?_
        refine g_copyi hC V hl.1 w_808 w_672 w_671 w_17 2 1 rfl rfl (by decide +kernel) (by decide +kernel) (Nat.le_of_ble_eq_true rfl) (Nat.le_of_ble_eq_true rfl) (Nat.le_of_ble_eq_true rfl) dX0_layFrom_50 (fun g_13 H locs V => ?_)
        have V : gW D T A s [(y0, .inr (0, [.int sum, .ref y1, .ref y2])), (y1, .inl (T 0, 7, .inl g_13)), (y2, .inl (T 0, 7, .inl yt)), (a0, .inr (5, [.int (nI an), .int am, .int al, .int ao, .int au, .ref a1, .ref a2, .ref a3, .ref a4, .ref a5, .ref a6, .ref a7, .ref a8, .ref a9, .ref a10])), (a1, .inl (T 0, 10, .inl af1)), (a2, .inl (T 0, 10, .inl af2))] H locs := V
        exact g_vret (Qr := (q_y_lay3 T y0 a0 tk sum ys y1 y2 yb yt an am al ao au a1 a2 a3 a4 a5 a6 a7 a8 a9 a10 af1 af2)) hC V ⟨(Nat.le_of_ble_eq_true rfl), (Nat.le_of_ble_eq_true rfl)⟩ ⟨sum, g_13, yt, rfl, rfl, (by first | assumption | omega)⟩ dX0_layFrom_53
      · skip
        have c_12 := b_nle (by omega) (by omega) c_12
        refine lv_iload_n hx hb dX0_layFrom_26 rfl (lv_at hl 2 rfl) ?_
        refine lv_bipush (v := (nI 7)) hx hb dX0_layFrom_27 (by decide +kernel) ?_
        refine lv_icmp_lt (tgt := 54) hx hb dX0_layFrom_29 (by decide) (fun _ => ?_) (fun c => absurd (show (nI 3) < (nI 7) by first | rfl | decide +kernel) c)
        refine lv_iconst (v := (nI 0)) hx hb dX0_layFrom_54 (by decide +kernel) ?_
        refine lv_istore (lv' := [(5, .int (nI 0)), (0, .ref y0), (1, .ref a0), (2, .int (nI 3)), (3, .int tk), (4, .int sum)]) hx hb dX0_layFrom_55 hl (by decide) rfl (fun ls hl => ?_)
        have L_14 : ∀ (fu : Nat) (k57 : Nat) (bv : Int32) (ga : Nat → Int32) (gb : Nat → Int32), k57 ≤ an → (∀ i, i < 7 → (gb i = -1 ∨ bd (gb i) 7)) → an - k57 < fu → ∀ (H : Heap) (locs : List Loc) (ls : Array Slot), gW D T A s [(y0, .inr (0, [.int bv, .ref y1, .ref y2])), (y1, .inl (T 0, 7, .inl ga)), (y2, .inl (T 0, 7, .inl gb)), (a0, .inr (5, [.int (nI an), .int am, .int al, .int ao, .int au, .ref a1, .ref a2, .ref a3, .ref a4, .ref a5, .ref a6, .ref a7, .ref a8, .ref a9, .ref a10])), (a1, .inl (T 0, 10, .inl af1)), (a2, .inl (T 0, 10, .inl af2))] H locs → lv_has ls 7 [(5, .int (nI k57)), (0, .ref y0), (1, .ref a0), (2, .int (nI 3)), (3, .int tk), (4, .int sum)] → W p l e (rmD 6 0 0) s m args below meth c H locs 0 0 (MQ below (gQ D A (q_y_lay3 T y0 a0 tk sum ys y1 y2 yb yt an am al ao au a1 a2 a3 a4 a5 a6 a7 a8 a9 a10 af1 af2)) args s 0 0 A) (F0 m 57 ls []) := by
          intro fu_57
          induction fu_57 with
          | zero => intro k57 bv ga gb hk57 hgb hmu; exact absurd hmu (Nat.not_lt_zero _)
          | succ fu_57 ih_57 =>
            intro k57 bv ga gb hk57 hgb hmu_57 H locs ls V hl
            refine lv_iload hx hb dX0_layFrom_57 (lv_at hl 0 rfl) ?_
            refine lv_aload_n hx hb dX0_layFrom_59 rfl (lv_at hl 2 rfl) ?_
            refine g_get hC V (ci := 5) uwX5 3 rfl rfl 0 (by decide) w_35 rfl rfl dX0_layFrom_60 ?_
            refine lv_icmp_ge (tgt := 145) hx hb dX0_layFrom_63 (by decide) (fun c_15 => ?_) (fun c_15 => ?_)
            · skip
              have c_15 := b_le (by omega) (by omega) c_15
              exact g_vret (Qr := (q_y_lay3 T y0 a0 tk sum ys y1 y2 yb yt an am al ao au a1 a2 a3 a4 a5 a6 a7 a8 a9 a10 af1 af2)) hC V ⟨(Nat.le_of_ble_eq_true rfl), (Nat.le_of_ble_eq_true rfl)⟩ ⟨bv, ga, gb, rfl, rfl, (by first | assumption | omega)⟩ dX0_layFrom_145
            · skip
              have c_15 := b_nle (by omega) (by omega) c_15
              refine lv_iload_n hx hb dX0_layFrom_66 rfl (lv_at hl 4 rfl) ?_
              refine lv_iload hx hb dX0_layFrom_67 (lv_at hl 0 rfl) ?_
              refine g_callSNU (nA := 2) (host := RX7) hC V hl.1 (c_isIn l D T tk (nI k57)) w_472 (List.mem_of_getElem? (i := 7) rfl) w_2 w_471 (by decide +kernel) rfl ⟨(Nat.le_of_ble_eq_true rfl), (Nat.le_of_ble_eq_true rfl)⟩ [] rfl rfl (Nat.le_of_ble_eq_true rfl) dX0_layFrom_69 ⟨(Nat.le_of_ble_eq_true rfl), (Nat.le_of_ble_eq_true rfl)⟩ rfl (fun r w1 H locs hQ V => ?_)
              rcases hQ with ⟨rfl, rfl⟩ | ⟨rfl, rfl⟩
              · have V : gW D T A s [(y0, .inr (0, [.int bv, .ref y1, .ref y2])), (y1, .inl (T 0, 7, .inl ga)), (y2, .inl (T 0, 7, .inl gb)), (a0, .inr (5, [.int (nI an), .int am, .int al, .int ao, .int au, .ref a1, .ref a2, .ref a3, .ref a4, .ref a5, .ref a6, .ref a7, .ref a8, .ref a9, .ref a10])), (a1, .inl (T 0, 10, .inl af1)), (a2, .inl (T 0, 10, .inl af2))] H locs := V _ [] rfl rfl rfl (by decide +kernel) rfl
                show W p l e _ s m args below meth c H locs _ _ _ (F0 m 72 ls [.int (nI 1)])
                refine lv_if_ne (tgt := 139) hx hb dX0_layFrom_72 (by decide) (fun _ => ?_) (fun c => absurd (show (nI 1) = 0 from c) (by decide +kernel))
                refine lv_iinc (v := (nI (k57 + 1))) (lv' := [(5, .int (nI (k57 + 1))), (0, .ref y0), (1, .ref a0), (2, .int (nI 3)), (3, .int tk), (4, .int sum)]) hx hb dX0_layFrom_139 hl (k := 0) rfl (nI_1 _) (by decide) rfl (fun ls hl => ?_)
                refine lv_goto (tgt := 57) hx hb dX0_layFrom_142 (by decide) ?_
                exact ih_57 (k57 + 1) bv ga gb (by omega) (by assumption) (by omega) _ _ _ V (lv_sub hl [0, 1, 2, 3, 4, 5] rfl)
              · have V : gW D T A s [(y0, .inr (0, [.int bv, .ref y1, .ref y2])), (y1, .inl (T 0, 7, .inl ga)), (y2, .inl (T 0, 7, .inl gb)), (a0, .inr (5, [.int (nI an), .int am, .int al, .int ao, .int au, .ref a1, .ref a2, .ref a3, .ref a4, .ref a5, .ref a6, .ref a7, .ref a8, .ref a9, .ref a10])), (a1, .inl (T 0, 10, .inl af1)), (a2, .inl (T 0, 10, .inl af2))] H locs := V _ [] rfl rfl rfl (by decide +kernel) rfl
                show W p l e _ s m args below meth c H locs _ _ _ (F0 m 72 ls [.int (nI 0)])
                refine lv_if_ne (tgt := 139) hx hb dX0_layFrom_72 (by decide) (fun c => absurd (show (nI 0) = 0 by decide +kernel) c) (fun _ => ?_)
                refine lv_aload_n hx hb dX0_layFrom_75 rfl (lv_at hl 1 rfl) ?_
                refine lv_aload_n hx hb dX0_layFrom_76 rfl (lv_at hl 2 rfl) ?_
                refine lv_iload_n hx hb dX0_layFrom_77 rfl (lv_at hl 3 rfl) ?_
                refine lv_iload hx hb dX0_layFrom_78 (lv_at hl 0 rfl) ?_
                refine g_callVU (nA := 3) hC V hl.1 (y_closes l D T y0 a0 3 k57 bv y1 y2 gb an am al ao au a1 a2 a3 a4 a5 a6 a7 a8 a9 a10 (by first | assumption | omega) hgb (by first | assumption | omega) (by first | assumption | omega)) w_810 w_812 w_s32 w_7 w_813 (by decide +kernel) rfl ⟨(Nat.le_of_ble_eq_true rfl), (Nat.le_of_ble_eq_true rfl)⟩ 0 (ci := 0) rfl rfl [0, 2, 3] rfl rfl (Nat.le_of_ble_eq_true rfl) dX0_layFrom_80 ⟨(Nat.le_of_ble_eq_true rfl), (Nat.le_of_ble_eq_true rfl)⟩ rfl (fun r w1 H locs hQ V => ?_)
                rcases hQ with ⟨rfl, rfl⟩ | ⟨rfl, rfl⟩
                · have V : gW D T A s [(y0, .inr (0, [.int bv, .ref y1, .ref y2])), (y1, .inl (T 0, 7, .inl ga)), (y2, .inl (T 0, 7, .inl gb)), (a0, .inr (5, [.int (nI an), .int am, .int al, .int ao, .int au, .ref a1, .ref a2, .ref a3, .ref a4, .ref a5, .ref a6, .ref a7, .ref a8, .ref a9, .ref a10])), (a1, .inl (T 0, 10, .inl af1)), (a2, .inl (T 0, 10, .inl af2))] H locs := V _ [0, 1, 0] rfl rfl rfl (by decide +kernel) rfl
                  show W p l e _ s m args below meth c H locs _ _ _ (F0 m 83 ls [.int (nI 1)])
                  refine lv_if_ne (tgt := 139) hx hb dX0_layFrom_83 (by decide) (fun _ => ?_) (fun c => absurd (show (nI 1) = 0 from c) (by decide +kernel))
                  refine lv_iinc (v := (nI (k57 + 1))) (lv' := [(5, .int (nI (k57 + 1))), (0, .ref y0), (1, .ref a0), (2, .int (nI 3)), (3, .int tk), (4, .int sum)]) hx hb dX0_layFrom_139 hl (k := 0) rfl (nI_1 _) (by decide) rfl (fun ls hl => ?_)
                  refine lv_goto (tgt := 57) hx hb dX0_layFrom_142 (by decide) ?_
                  exact ih_57 (k57 + 1) bv ga gb (by omega) (by assumption) (by omega) _ _ _ V (lv_sub hl [0, 1, 2, 3, 4, 5] rfl)
                · have V : gW D T A s [(y0, .inr (0, [.int bv, .ref y1, .ref y2])), (y1, .inl (T 0, 7, .inl ga)), (y2, .inl (T 0, 7, .inl gb)), (a0, .inr (5, [.int (nI an), .int am, .int al, .int ao, .int au, .ref a1, .ref a2, .ref a3, .ref a4, .ref a5, .ref a6, .ref a7, .ref a8, .ref a9, .ref a10])), (a1, .inl (T 0, 10, .inl af1)), (a2, .inl (T 0, 10, .inl af2))] H locs := V _ [0, 1, 0] rfl rfl rfl (by decide +kernel) rfl
                  show W p l e _ s m args below meth c H locs _ _ _ (F0 m 83 ls [.int (nI 0)])
                  refine lv_if_ne (tgt := 139) hx hb dX0_layFrom_83 (by decide) (fun c => absurd (show (nI 0) = 0 by decide +kernel) c) (fun _ => ?_)
                  refine lv_aload_n hx hb dX0_layFrom_86 rfl (lv_at hl 1 rfl) ?_
                  refine g_get hC V (ci := 0) uwX0 0 rfl rfl 2 (by decide) w_215 rfl rfl dX0_layFrom_87 ?_
                  refine lv_iload_n hx hb dX0_layFrom_90 rfl (lv_at hl 3 rfl) ?_
                  refine lv_iload hx hb dX0_layFrom_91 (lv_at hl 0 rfl) ?_
                  refine g_iast hC V 2 rfl (vp_in_nI (by decide) (by decide)) (f' := (upd gb 3 (nI k57))) (by rw [nI_clamp (by decide)]) (ws' := [(y0, .inr (0, [.int bv, .ref y1, .ref y2])), (y1, .inl (T 0, 7, .inl ga)), (y2, .inl (T 0, 7, .inl (upd gb 3 (nI k57)))), (a0, .inr (5, [.int (nI an), .int am, .int al, .int ao, .int au, .ref a1, .ref a2, .ref a3, .ref a4, .ref a5, .ref a6, .ref a7, .ref a8, .ref a9, .ref a10])), (a1, .inl (T 0, 10, .inl af1)), (a2, .inl (T 0, 10, .inl af2))]) rfl dX0_layFrom_93 (fun H locs V => ?_)
                  refine lv_aload_n hx hb dX0_layFrom_94 rfl (lv_at hl 2 rfl) ?_
                  refine g_get hC V (ci := 5) uwX5 3 rfl rfl 5 (by decide) w_52 rfl rfl dX0_layFrom_95 ?_
                  refine lv_iload_n hx hb dX0_layFrom_98 rfl (lv_at hl 3 rfl) ?_
                  refine g_iald hC V 4 rfl (vp_in_nI (by decide) (by decide)) (v := (af1 3)) (congrArg _ (nI_clamp (by decide))) dX0_layFrom_99 ?_
                  refine lv_aload_n hx hb dX0_layFrom_100 rfl (lv_at hl 2 rfl) ?_
                  refine g_get hC V (ci := 5) uwX5 3 rfl rfl 6 (by decide) w_58 rfl rfl dX0_layFrom_101 ?_
                  refine lv_iload hx hb dX0_layFrom_104 (lv_at hl 0 rfl) ?_
                  refine g_iald hC V 5 rfl (vp_in_nI (by omega) (by omega)) (v := (af2 k57)) (congrArg _ (nI_clamp (by omega))) dX0_layFrom_106 ?_
                  refine lv_isub hx hb dX0_layFrom_107 ?_
                  refine va_mabs hx hb (hml.trans hl.1.symm) hown (hts _ w_814) (hts _ w_815) (hts _ w_10) (hts _ w_816) (Nat.le_of_ble_eq_true rfl) (Nat.le_of_ble_eq_true rfl) (Nat.le_of_ble_eq_true rfl) (Nat.le_of_ble_eq_true rfl) dX0_layFrom_108 ?_
                  refine lv_topi (fun x_16 ex_16 => ?_)
                  refine lv_istore (lv' := [(6, .int x_16), (5, .int (nI k57)), (0, .ref y0), (1, .ref a0), (2, .int (nI 3)), (3, .int tk), (4, .int sum)]) hx hb dX0_layFrom_111 hl (by decide) rfl (fun ls hl => ?_)
                  refine lv_aload_n hx hb dX0_layFrom_113 rfl (lv_at hl 2 rfl) ?_
                  refine lv_aload_n hx hb dX0_layFrom_114 rfl (lv_at hl 3 rfl) ?_
                  refine lv_iload_n hx hb dX0_layFrom_115 rfl (lv_at hl 4 rfl) ?_
                  refine lv_iconst (v := (nI 1)) hx hb dX0_layFrom_116 (by decide +kernel) ?_
                  refine lv_iadd hx hb dX0_layFrom_117 ?_
                  refine g_vi (y := (nI 4)) (by decide +kernel) ?_
                  refine lv_iload_n hx hb dX0_layFrom_118 rfl (lv_at hl 5 rfl) ?_
                  refine lv_iconst (v := (nI 1)) hx hb dX0_layFrom_119 (by decide +kernel) ?_
                  refine lv_iload hx hb dX0_layFrom_120 (lv_at hl 1 rfl) ?_
                  refine lv_ishl hx hb dX0_layFrom_122 ?_
                  refine lv_ior hx hb dX0_layFrom_123 ?_
                  refine lv_iload hx hb dX0_layFrom_124 (lv_at hl 6 rfl) ?_
                  refine lv_iload hx hb dX0_layFrom_126 (lv_at hl 0 rfl) ?_
                  refine lv_iadd hx hb dX0_layFrom_128 ?_
                  refine g_callV (wr := []) (nA := 4) hC V hl.1 (y_lay4 l D T y0 a0 (tk ||| ((nI 1) <<< ((nI k57) &&& 31))) (sum + x_16) bv y1 y2 ga (upd gb 3 (nI k57)) an am al ao au a1 a2 a3 a4 a5 a6 a7 a8 a9 a10 af1 af2 (by first | assumption | omega) (up_all (p := fun x => x = -1 ∨ bd x 7) hgb (fun _ => Or.inr (bd_nI (by omega))))) w_804 w_806 w_s31 w_7 w_807 (by decide +kernel) rfl ⟨(Nat.le_of_ble_eq_true rfl), (Nat.le_of_ble_eq_true rfl)⟩ 0 (ci := 0) rfl rfl [0, 1, 2, 3, 4, 5] [] rfl rfl rfl rfl (by decide) (Nat.le_of_ble_eq_true rfl) dX0_layFrom_129 ⟨(Nat.le_of_ble_eq_true rfl), (Nat.le_of_ble_eq_true rfl)⟩ rfl (fun r w1 H locs hQ V => ?_)
                  obtain ⟨bs_17, g1_18, g2_19, rfl, rfl, f_20⟩ := hQ
                  have V : gW D T A s [(y0, .inr (0, [.int bs_17, .ref y1, .ref y2])), (y1, .inl (T 0, 7, .inl g1_18)), (y2, .inl (T 0, 7, .inl g2_19)), (a0, .inr (5, [.int (nI an), .int am, .int al, .int ao, .int au, .ref a1, .ref a2, .ref a3, .ref a4, .ref a5, .ref a6, .ref a7, .ref a8, .ref a9, .ref a10])), (a1, .inl (T 0, 10, .inl af1)), (a2, .inl (T 0, 10, .inl af2))] H locs := V
                  show W p l e _ s m args below meth c H locs _ _ _ (F0 m 132 ls [])
                  have hq := up_all (p := fun x => x = -1 ∨ bd x 7) (k := 3) (x := -1) f_20 (fun _ => Or.inl rfl)
                  refine lv_aload_n hx hb dX0_layFrom_132 rfl (lv_at hl 2 rfl) ?_
                  refine g_get hC V (ci := 0) uwX0 0 rfl rfl 2 (by decide) w_215 rfl rfl dX0_layFrom_133 ?_
                  refine lv_iload_n hx hb dX0_layFrom_136 rfl (lv_at hl 4 rfl) ?_
                  refine lv_iconst (v := (-1)) hx hb dX0_layFrom_137 (by decide +kernel) ?_
                  refine g_iast hC V 2 rfl (vp_in_nI (by decide) (by decide)) (f' := (upd g2_19 3 (-1))) (by rw [nI_clamp (by decide)]) (ws' := [(y0, .inr (0, [.int bs_17, .ref y1, .ref y2])), (y1, .inl (T 0, 7, .inl g1_18)), (y2, .inl (T 0, 7, .inl (upd g2_19 3 (-1)))), (a0, .inr (5, [.int (nI an), .int am, .int al, .int ao, .int au, .ref a1, .ref a2, .ref a3, .ref a4, .ref a5, .ref a6, .ref a7, .ref a8, .ref a9, .ref a10])), (a1, .inl (T 0, 10, .inl af1)), (a2, .inl (T 0, 10, .inl af2))]) rfl dX0_layFrom_138 (fun H locs V => ?_)
                  refine lv_iinc (v := (nI (k57 + 1))) (lv' := [(5, .int (nI (k57 + 1))), (6, .int x_16), (0, .ref y0), (1, .ref a0), (2, .int (nI 3)), (3, .int tk), (4, .int sum)]) hx hb dX0_layFrom_139 hl (k := 1) rfl (nI_1 _) (by decide) rfl (fun ls hl => ?_)
                  refine lv_goto (tgt := 57) hx hb dX0_layFrom_142 (by decide) ?_
                  exact ih_57 (k57 + 1) bs_17 g1_18 (upd g2_19 3 (-1)) (by omega) (by assumption) (by omega) _ _ _ V (lv_sub hl [0, 2, 3, 4, 5, 6] rfl)
        exact L_14 _ 0 ys yb yt (by omega) h_yt (Nat.lt_succ_self _) _ _ _ V (lv_sub hl [0, 1, 2, 3, 4, 5] rfl)
    · skip
      exact g_vret (Qr := (q_y_lay3 T y0 a0 tk sum ys y1 y2 yb yt an am al ao au a1 a2 a3 a4 a5 a6 a7 a8 a9 a10 af1 af2)) hC V ⟨(Nat.le_of_ble_eq_true rfl), (Nat.le_of_ble_eq_true rfl)⟩ ⟨ys, yb, yt, rfl, rfl, (by first | assumption | omega)⟩ dX0_layFrom_17

def q_y_lay2 (T : Nat → ClassId) (y0 : Nat) (a0 : Nat) (tk : Int32) (sum : Int32) (ys : Int32) (y1 : Nat) (y2 : Nat) (yb : Nat → Int32) (yt : Nat → Int32) (an : Nat) (am : Int32) (al : Int32) (ao : Int32) (au : Int32) (a1 : Nat) (a2 : Nat) (a3 : Nat) (a4 : Nat) (a5 : Nat) (a6 : Nat) (a7 : Nat) (a8 : Nat) (a9 : Nat) (a10 : Nat) (af1 : Nat → Int32) (af2 : Nat → Int32) : Option Value → va_W → Prop := fun rr ww => (∃ (bs : Int32) (g1 : Nat → Int32) (g2 : Nat → Int32), rr = none ∧ ww = [(y0, .inr (0, [.int bs, .ref y1, .ref y2])), (y1, .inl (T 0, 7, .inl g1)), (y2, .inl (T 0, 7, .inl g2)), (a0, .inr (5, [.int (nI an), .int am, .int al, .int ao, .int au, .ref a1, .ref a2, .ref a3, .ref a4, .ref a5, .ref a6, .ref a7, .ref a8, .ref a9, .ref a10])), (a1, .inl (T 0, 10, .inl af1)), (a2, .inl (T 0, 10, .inl af2))] ∧ (∀ i, i < 7 → (g2 i = -1 ∨ bd (g2 i) 7)))
set_option maxHeartbeats 4000000 in
set_option maxRecDepth 100000 in
theorem y_lay2 (l : Launch) (D : va_G) (T : Nat → ClassId) (y0 : Nat) (a0 : Nat) (tk : Int32) (sum : Int32) (ys : Int32) (y1 : Nat) (y2 : Nat) (yb : Nat → Int32) (yt : Nat → Int32) (an : Nat) (am : Int32) (al : Int32) (ao : Int32) (au : Int32) (a1 : Nat) (a2 : Nat) (a3 : Nat) (a4 : Nat) (a5 : Nat) (a6 : Nat) (a7 : Nat) (a8 : Nat) (a9 : Nat) (a10 : Nat) (af1 : Nat → Int32) (af2 : Nat → Int32) (h_n : an ≤ 7) (h_yt : ∀ i, i < 7 → (yt i = -1 ∨ bd (yt i) 7)) : Ct l yX0_layFrom cX0_layFrom 7 none 7 0 0 D T [.ref y0, .ref a0, .int (nI 2), .int tk, .int sum] [(y0, .inr (0, [.int ys, .ref y1, .ref y2])), (y1, .inl (T 0, 7, .inl yb)), (y2, .inl (T 0, 7, .inl yt)), (a0, .inr (5, [.int (nI an), .int am, .int al, .int ao, .int au, .ref a1, .ref a2, .ref a3, .ref a4, .ref a5, .ref a6, .ref a7, .ref a8, .ref a9, .ref a10])), (a1, .inl (T 0, 10, .inl af1)), (a2, .inl (T 0, 10, .inl af2))] (q_y_lay2 T y0 a0 tk sum ys y1 y2 yb yt an am al ao au a1 a2 a3 a4 a5 a6 a7 a8 a9 a10 af1 af2) := by
  refine Ct.of (cc := cX0_layFrom) (maxL := 7) (ret := none) (by decide) (Nat.le_of_ble_eq_true rfl) ?_
  intro p e s m args below meth c A ls hC hnm V hl
  obtain ⟨hx, hb, hr, hml, hown, hts, hlocks⟩ := id hC
  generalize hH : s.heap = H at V ⊢
  clear hH
  have hl : lv_has ls 7 [(0, .ref y0), (1, .ref a0), (2, .int (nI 2)), (3, .int tk), (4, .int sum)] := hl
  generalize hlo : ([] : List Loc) = locs at V ⊢
  clear hlo
  refine lv_aload_n hx hb dX0_layFrom_0 rfl (lv_at hl 0 rfl) ?_
  refine g_get hC V (ci := 0) uwX0 0 rfl rfl 0 (by decide) w_211 rfl rfl dX0_layFrom_1 ?_
  refine lv_iconst (v := (-1)) hx hb dX0_layFrom_4 (by decide +kernel) ?_
  refine lv_icmp_eq (tgt := 18) hx hb dX0_layFrom_5 (by decide) (fun c_1 => ?_) (fun c_1 => ?_)
  · skip
    refine lv_iload_n hx hb dX0_layFrom_18 rfl (lv_at hl 2 rfl) ?_
    refine lv_aload_n hx hb dX0_layFrom_19 rfl (lv_at hl 1 rfl) ?_
    refine g_get hC V (ci := 5) uwX5 3 rfl rfl 0 (by decide) w_35 rfl rfl dX0_layFrom_20 ?_
    refine lv_icmp_ge (tgt := 32) hx hb dX0_layFrom_23 (by decide) (fun c_2 => ?_) (fun c_2 => ?_)
    · skip
      have c_2 := b_le (by omega) (by omega) c_2
      refine lv_aload_n hx hb dX0_layFrom_32 rfl (lv_at hl 0 rfl) ?_
      refine lv_iload hx hb dX0_layFrom_33 (lv_at hl 4 rfl) ?_
      refine g_put hC V (ci := 0) uwX0 tyX0 tyX0_ok nmX0 0 rfl rfl 0 (by decide) w_211 rfl rfl rfl rfl (Nat.le_of_ble_eq_true rfl) (ws' := [(y0, .inr (0, [.int sum, .ref y1, .ref y2])), (y1, .inl (T 0, 7, .inl yb)), (y2, .inl (T 0, 7, .inl yt)), (a0, .inr (5, [.int (nI an), .int am, .int al, .int ao, .int au, .ref a1, .ref a2, .ref a3, .ref a4, .ref a5, .ref a6, .ref a7, .ref a8, .ref a9, .ref a10])), (a1, .inl (T 0, 10, .inl af1)), (a2, .inl (T 0, 10, .inl af2))]) rfl dX0_layFrom_35 (fun H locs V => ?_)
      refine lv_aload_n hx hb dX0_layFrom_38 rfl (lv_at hl 0 rfl) ?_
      refine g_get hC V (ci := 0) uwX0 0 rfl rfl 2 (by decide) w_215 rfl rfl dX0_layFrom_39 ?_
      refine lv_iconst (v := (nI 0)) hx hb dX0_layFrom_42 (by decide +kernel) ?_
      refine lv_aload_n hx hb dX0_layFrom_43 rfl (lv_at hl 0 rfl) ?_
      refine g_get hC V (ci := 0) uwX0 0 rfl rfl 1 (by decide) w_213 rfl rfl dX0_layFrom_44 ?_
      refine lv_iconst (v := (nI 0)) hx hb dX0_layFrom_47 (by decide +kernel) ?_
      refine lv_bipush (v := (nI 7)) hx hb dX0_layFrom_48 (by decide +kernel) ?_
      refine g_copyi hC V hl.1 w_808 w_672 w_671 w_17 2 1 rfl rfl (by decide +kernel) (by decide +kernel) (Nat.le_of_ble_eq_true rfl) (Nat.le_of_ble_eq_true rfl) (Nat.le_of_ble_eq_true rfl) dX0_layFrom_50 (fun g_3 H locs V => ?_)
      have V : gW D T A s [(y0, .inr (0, [.int sum, .ref y1, .ref y2])), (y1, .inl (T 0, 7, .inl g_3)), (y2, .inl (T 0, 7, .inl yt)), (a0, .inr (5, [.int (nI an), .int am, .int al, .int ao, .int au, .ref a1, .ref a2, .ref a3, .ref a4, .ref a5, .ref a6, .ref a7, .ref a8, .ref a9, .ref a10])), (a1, .inl (T 0, 10, .inl af1)), (a2, .inl (T 0, 10, .inl af2))] H locs := V
      exact g_vret (Qr := (q_y_lay2 T y0 a0 tk sum ys y1 y2 yb yt an am al ao au a1 a2 a3 a4 a5 a6 a7 a8 a9 a10 af1 af2)) hC V ⟨(Nat.le_of_ble_eq_true rfl), (Nat.le_of_ble_eq_true rfl)⟩ ⟨sum, g_3, yt, rfl, rfl, (by first | assumption | omega)⟩ dX0_layFrom_53
    · skip
      have c_2 := b_nle (by omega) (by omega) c_2
      refine lv_iload_n hx hb dX0_layFrom_26 rfl (lv_at hl 2 rfl) ?_
      refine lv_bipush (v := (nI 7)) hx hb dX0_layFrom_27 (by decide +kernel) ?_
      refine lv_icmp_lt (tgt := 54) hx hb dX0_layFrom_29 (by decide) (fun _ => ?_) (fun c => absurd (show (nI 2) < (nI 7) by first | rfl | decide +kernel) c)
      refine lv_iconst (v := (nI 0)) hx hb dX0_layFrom_54 (by decide +kernel) ?_
      refine lv_istore (lv' := [(5, .int (nI 0)), (0, .ref y0), (1, .ref a0), (2, .int (nI 2)), (3, .int tk), (4, .int sum)]) hx hb dX0_layFrom_55 hl (by decide) rfl (fun ls hl => ?_)
      have L_4 : ∀ (fu : Nat) (k57 : Nat) (bv : Int32) (ga : Nat → Int32) (gb : Nat → Int32), k57 ≤ an → (∀ i, i < 7 → (gb i = -1 ∨ bd (gb i) 7)) → an - k57 < fu → ∀ (H : Heap) (locs : List Loc) (ls : Array Slot), gW D T A s [(y0, .inr (0, [.int bv, .ref y1, .ref y2])), (y1, .inl (T 0, 7, .inl ga)), (y2, .inl (T 0, 7, .inl gb)), (a0, .inr (5, [.int (nI an), .int am, .int al, .int ao, .int au, .ref a1, .ref a2, .ref a3, .ref a4, .ref a5, .ref a6, .ref a7, .ref a8, .ref a9, .ref a10])), (a1, .inl (T 0, 10, .inl af1)), (a2, .inl (T 0, 10, .inl af2))] H locs → lv_has ls 7 [(5, .int (nI k57)), (0, .ref y0), (1, .ref a0), (2, .int (nI 2)), (3, .int tk), (4, .int sum)] → W p l e (rmD 7 0 0) s m args below meth c H locs 0 0 (MQ below (gQ D A (q_y_lay2 T y0 a0 tk sum ys y1 y2 yb yt an am al ao au a1 a2 a3 a4 a5 a6 a7 a8 a9 a10 af1 af2)) args s 0 0 A) (F0 m 57 ls []) := by
        intro fu_57
        induction fu_57 with
        | zero => intro k57 bv ga gb hk57 hgb hmu; exact absurd hmu (Nat.not_lt_zero _)
        | succ fu_57 ih_57 =>
          intro k57 bv ga gb hk57 hgb hmu_57 H locs ls V hl
          refine lv_iload hx hb dX0_layFrom_57 (lv_at hl 0 rfl) ?_
          refine lv_aload_n hx hb dX0_layFrom_59 rfl (lv_at hl 2 rfl) ?_
          refine g_get hC V (ci := 5) uwX5 3 rfl rfl 0 (by decide) w_35 rfl rfl dX0_layFrom_60 ?_
          refine lv_icmp_ge (tgt := 145) hx hb dX0_layFrom_63 (by decide) (fun c_5 => ?_) (fun c_5 => ?_)
          · skip
            have c_5 := b_le (by omega) (by omega) c_5
            exact g_vret (Qr := (q_y_lay2 T y0 a0 tk sum ys y1 y2 yb yt an am al ao au a1 a2 a3 a4 a5 a6 a7 a8 a9 a10 af1 af2)) hC V ⟨(Nat.le_of_ble_eq_true rfl), (Nat.le_of_ble_eq_true rfl)⟩ ⟨bv, ga, gb, rfl, rfl, (by first | assumption | omega)⟩ dX0_layFrom_145
          · skip
            have c_5 := b_nle (by omega) (by omega) c_5
            refine lv_iload_n hx hb dX0_layFrom_66 rfl (lv_at hl 4 rfl) ?_
            refine lv_iload hx hb dX0_layFrom_67 (lv_at hl 0 rfl) ?_
            refine g_callSNU (nA := 2) (host := RX7) hC V hl.1 (c_isIn l D T tk (nI k57)) w_472 (List.mem_of_getElem? (i := 7) rfl) w_2 w_471 (by decide +kernel) rfl ⟨(Nat.le_of_ble_eq_true rfl), (Nat.le_of_ble_eq_true rfl)⟩ [] rfl rfl (Nat.le_of_ble_eq_true rfl) dX0_layFrom_69 ⟨(Nat.le_of_ble_eq_true rfl), (Nat.le_of_ble_eq_true rfl)⟩ rfl (fun r w1 H locs hQ V => ?_)
            rcases hQ with ⟨rfl, rfl⟩ | ⟨rfl, rfl⟩
            · have V : gW D T A s [(y0, .inr (0, [.int bv, .ref y1, .ref y2])), (y1, .inl (T 0, 7, .inl ga)), (y2, .inl (T 0, 7, .inl gb)), (a0, .inr (5, [.int (nI an), .int am, .int al, .int ao, .int au, .ref a1, .ref a2, .ref a3, .ref a4, .ref a5, .ref a6, .ref a7, .ref a8, .ref a9, .ref a10])), (a1, .inl (T 0, 10, .inl af1)), (a2, .inl (T 0, 10, .inl af2))] H locs := V _ [] rfl rfl rfl (by decide +kernel) rfl
              show W p l e _ s m args below meth c H locs _ _ _ (F0 m 72 ls [.int (nI 1)])
              refine lv_if_ne (tgt := 139) hx hb dX0_layFrom_72 (by decide) (fun _ => ?_) (fun c => absurd (show (nI 1) = 0 from c) (by decide +kernel))
              refine lv_iinc (v := (nI (k57 + 1))) (lv' := [(5, .int (nI (k57 + 1))), (0, .ref y0), (1, .ref a0), (2, .int (nI 2)), (3, .int tk), (4, .int sum)]) hx hb dX0_layFrom_139 hl (k := 0) rfl (nI_1 _) (by decide) rfl (fun ls hl => ?_)
              refine lv_goto (tgt := 57) hx hb dX0_layFrom_142 (by decide) ?_
              exact ih_57 (k57 + 1) bv ga gb (by omega) (by assumption) (by omega) _ _ _ V (lv_sub hl [0, 1, 2, 3, 4, 5] rfl)
            · have V : gW D T A s [(y0, .inr (0, [.int bv, .ref y1, .ref y2])), (y1, .inl (T 0, 7, .inl ga)), (y2, .inl (T 0, 7, .inl gb)), (a0, .inr (5, [.int (nI an), .int am, .int al, .int ao, .int au, .ref a1, .ref a2, .ref a3, .ref a4, .ref a5, .ref a6, .ref a7, .ref a8, .ref a9, .ref a10])), (a1, .inl (T 0, 10, .inl af1)), (a2, .inl (T 0, 10, .inl af2))] H locs := V _ [] rfl rfl rfl (by decide +kernel) rfl
              show W p l e _ s m args below meth c H locs _ _ _ (F0 m 72 ls [.int (nI 0)])
              refine lv_if_ne (tgt := 139) hx hb dX0_layFrom_72 (by decide) (fun c => absurd (show (nI 0) = 0 by decide +kernel) c) (fun _ => ?_)
              refine lv_aload_n hx hb dX0_layFrom_75 rfl (lv_at hl 1 rfl) ?_
              refine lv_aload_n hx hb dX0_layFrom_76 rfl (lv_at hl 2 rfl) ?_
              refine lv_iload_n hx hb dX0_layFrom_77 rfl (lv_at hl 3 rfl) ?_
              refine lv_iload hx hb dX0_layFrom_78 (lv_at hl 0 rfl) ?_
              refine g_callVU (nA := 3) hC V hl.1 (y_closes l D T y0 a0 2 k57 bv y1 y2 gb an am al ao au a1 a2 a3 a4 a5 a6 a7 a8 a9 a10 (by first | assumption | omega) hgb (by first | assumption | omega) (by first | assumption | omega)) w_810 w_812 w_s32 w_7 w_813 (by decide +kernel) rfl ⟨(Nat.le_of_ble_eq_true rfl), (Nat.le_of_ble_eq_true rfl)⟩ 0 (ci := 0) rfl rfl [0, 2, 3] rfl rfl (Nat.le_of_ble_eq_true rfl) dX0_layFrom_80 ⟨(Nat.le_of_ble_eq_true rfl), (Nat.le_of_ble_eq_true rfl)⟩ rfl (fun r w1 H locs hQ V => ?_)
              rcases hQ with ⟨rfl, rfl⟩ | ⟨rfl, rfl⟩
              · have V : gW D T A s [(y0, .inr (0, [.int bv, .ref y1, .ref y2])), (y1, .inl (T 0, 7, .inl ga)), (y2, .inl (T 0, 7, .inl gb)), (a0, .inr (5, [.int (nI an), .int am, .int al, .int ao, .int au, .ref a1, .ref a2, .ref a3, .ref a4, .ref a5, .ref a6, .ref a7, .ref a8, .ref a9, .ref a10])), (a1, .inl (T 0, 10, .inl af1)), (a2, .inl (T 0, 10, .inl af2))] H locs := V _ [0, 1, 0] rfl rfl rfl (by decide +kernel) rfl
                show W p l e _ s m args below meth c H locs _ _ _ (F0 m 83 ls [.int (nI 1)])
                refine lv_if_ne (tgt := 139) hx hb dX0_layFrom_83 (by decide) (fun _ => ?_) (fun c => absurd (show (nI 1) = 0 from c) (by decide +kernel))
                refine lv_iinc (v := (nI (k57 + 1))) (lv' := [(5, .int (nI (k57 + 1))), (0, .ref y0), (1, .ref a0), (2, .int (nI 2)), (3, .int tk), (4, .int sum)]) hx hb dX0_layFrom_139 hl (k := 0) rfl (nI_1 _) (by decide) rfl (fun ls hl => ?_)
                refine lv_goto (tgt := 57) hx hb dX0_layFrom_142 (by decide) ?_
                exact ih_57 (k57 + 1) bv ga gb (by omega) (by assumption) (by omega) _ _ _ V (lv_sub hl [0, 1, 2, 3, 4, 5] rfl)
              · have V : gW D T A s [(y0, .inr (0, [.int bv, .ref y1, .ref y2])), (y1, .inl (T 0, 7, .inl ga)), (y2, .inl (T 0, 7, .inl gb)), (a0, .inr (5, [.int (nI an), .int am, .int al, .int ao, .int au, .ref a1, .ref a2, .ref a3, .ref a4, .ref a5, .ref a6, .ref a7, .ref a8, .ref a9, .ref a10])), (a1, .inl (T 0, 10, .inl af1)), (a2, .inl (T 0, 10, .inl af2))] H locs := V _ [0, 1, 0] rfl rfl rfl (by decide +kernel) rfl
                show W p l e _ s m args below meth c H locs _ _ _ (F0 m 83 ls [.int (nI 0)])
                refine lv_if_ne (tgt := 139) hx hb dX0_layFrom_83 (by decide) (fun c => absurd (show (nI 0) = 0 by decide +kernel) c) (fun _ => ?_)
                refine lv_aload_n hx hb dX0_layFrom_86 rfl (lv_at hl 1 rfl) ?_
                refine g_get hC V (ci := 0) uwX0 0 rfl rfl 2 (by decide) w_215 rfl rfl dX0_layFrom_87 ?_
                refine lv_iload_n hx hb dX0_layFrom_90 rfl (lv_at hl 3 rfl) ?_
                refine lv_iload hx hb dX0_layFrom_91 (lv_at hl 0 rfl) ?_
                refine g_iast hC V 2 rfl (vp_in_nI (by decide) (by decide)) (f' := (upd gb 2 (nI k57))) (by rw [nI_clamp (by decide)]) (ws' := [(y0, .inr (0, [.int bv, .ref y1, .ref y2])), (y1, .inl (T 0, 7, .inl ga)), (y2, .inl (T 0, 7, .inl (upd gb 2 (nI k57)))), (a0, .inr (5, [.int (nI an), .int am, .int al, .int ao, .int au, .ref a1, .ref a2, .ref a3, .ref a4, .ref a5, .ref a6, .ref a7, .ref a8, .ref a9, .ref a10])), (a1, .inl (T 0, 10, .inl af1)), (a2, .inl (T 0, 10, .inl af2))]) rfl dX0_layFrom_93 (fun H locs V => ?_)
                refine lv_aload_n hx hb dX0_layFrom_94 rfl (lv_at hl 2 rfl) ?_
                refine g_get hC V (ci := 5) uwX5 3 rfl rfl 5 (by decide) w_52 rfl rfl dX0_layFrom_95 ?_
                refine lv_iload_n hx hb dX0_layFrom_98 rfl (lv_at hl 3 rfl) ?_
                refine g_iald hC V 4 rfl (vp_in_nI (by decide) (by decide)) (v := (af1 2)) (congrArg _ (nI_clamp (by decide))) dX0_layFrom_99 ?_
                refine lv_aload_n hx hb dX0_layFrom_100 rfl (lv_at hl 2 rfl) ?_
                refine g_get hC V (ci := 5) uwX5 3 rfl rfl 6 (by decide) w_58 rfl rfl dX0_layFrom_101 ?_
                refine lv_iload hx hb dX0_layFrom_104 (lv_at hl 0 rfl) ?_
                refine g_iald hC V 5 rfl (vp_in_nI (by omega) (by omega)) (v := (af2 k57)) (congrArg _ (nI_clamp (by omega))) dX0_layFrom_106 ?_
                refine lv_isub hx hb dX0_layFrom_107 ?_
                refine va_mabs hx hb (hml.trans hl.1.symm) hown (hts _ w_814) (hts _ w_815) (hts _ w_10) (hts _ w_816) (Nat.le_of_ble_eq_true rfl) (Nat.le_of_ble_eq_true rfl) (Nat.le_of_ble_eq_true rfl) (Nat.le_of_ble_eq_true rfl) dX0_layFrom_108 ?_
                refine lv_topi (fun x_6 ex_6 => ?_)
                refine lv_istore (lv' := [(6, .int x_6), (5, .int (nI k57)), (0, .ref y0), (1, .ref a0), (2, .int (nI 2)), (3, .int tk), (4, .int sum)]) hx hb dX0_layFrom_111 hl (by decide) rfl (fun ls hl => ?_)
                refine lv_aload_n hx hb dX0_layFrom_113 rfl (lv_at hl 2 rfl) ?_
                refine lv_aload_n hx hb dX0_layFrom_114 rfl (lv_at hl 3 rfl) ?_
                refine lv_iload_n hx hb dX0_layFrom_115 rfl (lv_at hl 4 rfl) ?_
                refine lv_iconst (v := (nI 1)) hx hb dX0_layFrom_116 (by decide +kernel) ?_
                refine lv_iadd hx hb dX0_layFrom_117 ?_
                refine g_vi (y := (nI 3)) (by decide +kernel) ?_
                refine lv_iload_n hx hb dX0_layFrom_118 rfl (lv_at hl 5 rfl) ?_
                refine lv_iconst (v := (nI 1)) hx hb dX0_layFrom_119 (by decide +kernel) ?_
                refine lv_iload hx hb dX0_layFrom_120 (lv_at hl 1 rfl) ?_
                refine lv_ishl hx hb dX0_layFrom_122 ?_
                refine lv_ior hx hb dX0_layFrom_123 ?_
                refine lv_iload hx hb dX0_layFrom_124 (lv_at hl 6 rfl) ?_
                refine lv_iload hx hb dX0_layFrom_126 (lv_at hl 0 rfl) ?_
                refine lv_iadd hx hb dX0_layFrom_128 ?_
                refine g_callV (wr := []) (nA := 4) hC V hl.1 (y_lay3 l D T y0 a0 (tk ||| ((nI 1) <<< ((nI k57) &&& 31))) (sum + x_6) bv y1 y2 ga (upd gb 2 (nI k57)) an am al ao au a1 a2 a3 a4 a5 a6 a7 a8 a9 a10 af1 af2 (by first | assumption | omega) (up_all (p := fun x => x = -1 ∨ bd x 7) hgb (fun _ => Or.inr (bd_nI (by omega))))) w_804 w_806 w_s31 w_7 w_807 (by decide +kernel) rfl ⟨(Nat.le_of_ble_eq_true rfl), (Nat.le_of_ble_eq_true rfl)⟩ 0 (ci := 0) rfl rfl [0, 1, 2, 3, 4, 5] [] rfl rfl rfl rfl (by decide) (Nat.le_of_ble_eq_true rfl) dX0_layFrom_129 ⟨(Nat.le_of_ble_eq_true rfl), (Nat.le_of_ble_eq_true rfl)⟩ rfl (fun r w1 H locs hQ V => ?_)
                obtain ⟨bs_7, g1_8, g2_9, rfl, rfl, f_10⟩ := hQ
                have V : gW D T A s [(y0, .inr (0, [.int bs_7, .ref y1, .ref y2])), (y1, .inl (T 0, 7, .inl g1_8)), (y2, .inl (T 0, 7, .inl g2_9)), (a0, .inr (5, [.int (nI an), .int am, .int al, .int ao, .int au, .ref a1, .ref a2, .ref a3, .ref a4, .ref a5, .ref a6, .ref a7, .ref a8, .ref a9, .ref a10])), (a1, .inl (T 0, 10, .inl af1)), (a2, .inl (T 0, 10, .inl af2))] H locs := V
                show W p l e _ s m args below meth c H locs _ _ _ (F0 m 132 ls [])
                have hq := up_all (p := fun x => x = -1 ∨ bd x 7) (k := 2) (x := -1) f_10 (fun _ => Or.inl rfl)
                refine lv_aload_n hx hb dX0_layFrom_132 rfl (lv_at hl 2 rfl) ?_
                refine g_get hC V (ci := 0) uwX0 0 rfl rfl 2 (by decide) w_215 rfl rfl dX0_layFrom_133 ?_
                refine lv_iload_n hx hb dX0_layFrom_136 rfl (lv_at hl 4 rfl) ?_
                refine lv_iconst (v := (-1)) hx hb dX0_layFrom_137 (by decide +kernel) ?_
                refine g_iast hC V 2 rfl (vp_in_nI (by decide) (by decide)) (f' := (upd g2_9 2 (-1))) (by rw [nI_clamp (by decide)]) (ws' := [(y0, .inr (0, [.int bs_7, .ref y1, .ref y2])), (y1, .inl (T 0, 7, .inl g1_8)), (y2, .inl (T 0, 7, .inl (upd g2_9 2 (-1)))), (a0, .inr (5, [.int (nI an), .int am, .int al, .int ao, .int au, .ref a1, .ref a2, .ref a3, .ref a4, .ref a5, .ref a6, .ref a7, .ref a8, .ref a9, .ref a10])), (a1, .inl (T 0, 10, .inl af1)), (a2, .inl (T 0, 10, .inl af2))]) rfl dX0_layFrom_138 (fun H locs V => ?_)
                refine lv_iinc (v := (nI (k57 + 1))) (lv' := [(5, .int (nI (k57 + 1))), (6, .int x_6), (0, .ref y0), (1, .ref a0), (2, .int (nI 2)), (3, .int tk), (4, .int sum)]) hx hb dX0_layFrom_139 hl (k := 1) rfl (nI_1 _) (by decide) rfl (fun ls hl => ?_)
                refine lv_goto (tgt := 57) hx hb dX0_layFrom_142 (by decide) ?_
                exact ih_57 (k57 + 1) bs_7 g1_8 (upd g2_9 2 (-1)) (by omega) (by assumption) (by omega) _ _ _ V (lv_sub hl [0, 2, 3, 4, 5, 6] rfl)
      exact L_4 _ 0 ys yb yt (by omega) h_yt (Nat.lt_succ_self _) _ _ _ V (lv_sub hl [0, 1, 2, 3, 4, 5] rfl)
  · skip
    refine lv_iload hx hb dX0_layFrom_8 (lv_at hl 4 rfl) ?_
    refine lv_aload_n hx hb dX0_layFrom_10 rfl (lv_at hl 0 rfl) ?_
    refine g_get hC V (ci := 0) uwX0 0 rfl rfl 0 (by decide) w_211 rfl rfl dX0_layFrom_11 ?_
    refine lv_icmp_lt (tgt := 18) hx hb dX0_layFrom_14 (by decide) (fun c_11 => ?_) (fun c_11 => ?_)
    · skip
      refine lv_iload_n hx hb dX0_layFrom_18 rfl (lv_at hl 2 rfl) ?_
      refine lv_aload_n hx hb dX0_layFrom_19 rfl (lv_at hl 1 rfl) ?_
      refine g_get hC V (ci := 5) uwX5 3 rfl rfl 0 (by decide) w_35 rfl rfl dX0_layFrom_20 ?_
      refine lv_icmp_ge (tgt := 32) hx hb dX0_layFrom_23 (by decide) (fun c_12 => ?_) (fun c_12 => ?_)
      · skip
        have c_12 := b_le (by omega) (by omega) c_12
        refine lv_aload_n hx hb dX0_layFrom_32 rfl (lv_at hl 0 rfl) ?_
        refine lv_iload hx hb dX0_layFrom_33 (lv_at hl 4 rfl) ?_
        refine g_put hC V (ci := 0) uwX0 tyX0 tyX0_ok nmX0 0 rfl rfl 0 (by decide) w_211 rfl rfl rfl rfl (Nat.le_of_ble_eq_true rfl) (ws' := [(y0, .inr (0, [.int sum, .ref y1, .ref y2])), (y1, .inl (T 0, 7, .inl yb)), (y2, .inl (T 0, 7, .inl yt)), (a0, .inr (5, [.int (nI an), .int am, .int al, .int ao, .int au, .ref a1, .ref a2, .ref a3, .ref a4, .ref a5, .ref a6, .ref a7, .ref a8, .ref a9, .ref a10])), (a1, .inl (T 0, 10, .inl af1)), (a2, .inl (T 0, 10, .inl af2))]) rfl dX0_layFrom_35 (fun H locs V => ?_)
        refine lv_aload_n hx hb dX0_layFrom_38 rfl (lv_at hl 0 rfl) ?_
        refine g_get hC V (ci := 0) uwX0 0 rfl rfl 2 (by decide) w_215 rfl rfl dX0_layFrom_39 ?_
        refine lv_iconst (v := (nI 0)) hx hb dX0_layFrom_42 (by decide +kernel) ?_
        refine lv_aload_n hx hb dX0_layFrom_43 rfl (lv_at hl 0 rfl) ?_
        refine g_get hC V (ci := 0) uwX0 0 rfl rfl 1 (by decide) w_213 rfl rfl dX0_layFrom_44 ?_
        refine lv_iconst (v := (nI 0)) hx hb dX0_layFrom_47 (by decide +kernel) ?_
        refine lv_bipush (v := (nI 7)) hx hb dX0_layFrom_48 (by decide +kernel) ?_
        refine g_copyi hC V hl.1 w_808 w_672 w_671 w_17 2 1 rfl rfl (by decide +kernel) (by decide +kernel) (Nat.le_of_ble_eq_true rfl) (Nat.le_of_ble_eq_true rfl) (Nat.le_of_ble_eq_true rfl) dX0_layFrom_50 (fun g_13 H locs V => ?_)
        have V : gW D T A s [(y0, .inr (0, [.int sum, .ref y1, .ref y2])), (y1, .inl (T 0, 7, .inl g_13)), (y2, .inl (T 0, 7, .inl yt)), (a0, .inr (5, [.int (nI an), .int am, .int al, .int ao, .int au, .ref a1, .ref a2, .ref a3, .ref a4, .ref a5, .ref a6, .ref a7, .ref a8, .ref a9, .ref a10])), (a1, .inl (T 0, 10, .inl af1)), (a2, .inl (T 0, 10, .inl af2))] H locs := V
        exact g_vret (Qr := (q_y_lay2 T y0 a0 tk sum ys y1 y2 yb yt an am al ao au a1 a2 a3 a4 a5 a6 a7 a8 a9 a10 af1 af2)) hC V ⟨(Nat.le_of_ble_eq_true rfl), (Nat.le_of_ble_eq_true rfl)⟩ ⟨sum, g_13, yt, rfl, rfl, (by first | assumption | omega)⟩ dX0_layFrom_53
      · skip
        have c_12 := b_nle (by omega) (by omega) c_12
        refine lv_iload_n hx hb dX0_layFrom_26 rfl (lv_at hl 2 rfl) ?_
        refine lv_bipush (v := (nI 7)) hx hb dX0_layFrom_27 (by decide +kernel) ?_
        refine lv_icmp_lt (tgt := 54) hx hb dX0_layFrom_29 (by decide) (fun _ => ?_) (fun c => absurd (show (nI 2) < (nI 7) by first | rfl | decide +kernel) c)
        refine lv_iconst (v := (nI 0)) hx hb dX0_layFrom_54 (by decide +kernel) ?_
        refine lv_istore (lv' := [(5, .int (nI 0)), (0, .ref y0), (1, .ref a0), (2, .int (nI 2)), (3, .int tk), (4, .int sum)]) hx hb dX0_layFrom_55 hl (by decide) rfl (fun ls hl => ?_)
        have L_14 : ∀ (fu : Nat) (k57 : Nat) (bv : Int32) (ga : Nat → Int32) (gb : Nat → Int32), k57 ≤ an → (∀ i, i < 7 → (gb i = -1 ∨ bd (gb i) 7)) → an - k57 < fu → ∀ (H : Heap) (locs : List Loc) (ls : Array Slot), gW D T A s [(y0, .inr (0, [.int bv, .ref y1, .ref y2])), (y1, .inl (T 0, 7, .inl ga)), (y2, .inl (T 0, 7, .inl gb)), (a0, .inr (5, [.int (nI an), .int am, .int al, .int ao, .int au, .ref a1, .ref a2, .ref a3, .ref a4, .ref a5, .ref a6, .ref a7, .ref a8, .ref a9, .ref a10])), (a1, .inl (T 0, 10, .inl af1)), (a2, .inl (T 0, 10, .inl af2))] H locs → lv_has ls 7 [(5, .int (nI k57)), (0, .ref y0), (1, .ref a0), (2, .int (nI 2)), (3, .int tk), (4, .int sum)] → W p l e (rmD 7 0 0) s m args below meth c H locs 0 0 (MQ below (gQ D A (q_y_lay2 T y0 a0 tk sum ys y1 y2 yb yt an am al ao au a1 a2 a3 a4 a5 a6 a7 a8 a9 a10 af1 af2)) args s 0 0 A) (F0 m 57 ls []) := by
          intro fu_57
          induction fu_57 with
          | zero => intro k57 bv ga gb hk57 hgb hmu; exact absurd hmu (Nat.not_lt_zero _)
          | succ fu_57 ih_57 =>
            intro k57 bv ga gb hk57 hgb hmu_57 H locs ls V hl
            refine lv_iload hx hb dX0_layFrom_57 (lv_at hl 0 rfl) ?_
            refine lv_aload_n hx hb dX0_layFrom_59 rfl (lv_at hl 2 rfl) ?_
            refine g_get hC V (ci := 5) uwX5 3 rfl rfl 0 (by decide) w_35 rfl rfl dX0_layFrom_60 ?_
            refine lv_icmp_ge (tgt := 145) hx hb dX0_layFrom_63 (by decide) (fun c_15 => ?_) (fun c_15 => ?_)
            · skip
              have c_15 := b_le (by omega) (by omega) c_15
              exact g_vret (Qr := (q_y_lay2 T y0 a0 tk sum ys y1 y2 yb yt an am al ao au a1 a2 a3 a4 a5 a6 a7 a8 a9 a10 af1 af2)) hC V ⟨(Nat.le_of_ble_eq_true rfl), (Nat.le_of_ble_eq_true rfl)⟩ ⟨bv, ga, gb, rfl, rfl, (by first | assumption | omega)⟩ dX0_layFrom_145
            · skip
              have c_15 := b_nle (by omega) (by omega) c_15
              refine lv_iload_n hx hb dX0_layFrom_66 rfl (lv_at hl 4 rfl) ?_
              refine lv_iload hx hb dX0_layFrom_67 (lv_at hl 0 rfl) ?_
              refine g_callSNU (nA := 2) (host := RX7) hC V hl.1 (c_isIn l D T tk (nI k57)) w_472 (List.mem_of_getElem? (i := 7) rfl) w_2 w_471 (by decide +kernel) rfl ⟨(Nat.le_of_ble_eq_true rfl), (Nat.le_of_ble_eq_true rfl)⟩ [] rfl rfl (Nat.le_of_ble_eq_true rfl) dX0_layFrom_69 ⟨(Nat.le_of_ble_eq_true rfl), (Nat.le_of_ble_eq_true rfl)⟩ rfl (fun r w1 H locs hQ V => ?_)
              rcases hQ with ⟨rfl, rfl⟩ | ⟨rfl, rfl⟩
              · have V : gW D T A s [(y0, .inr (0, [.int bv, .ref y1, .ref y2])), (y1, .inl (T 0, 7, .inl ga)), (y2, .inl (T 0, 7, .inl gb)), (a0, .inr (5, [.int (nI an), .int am, .int al, .int ao, .int au, .ref a1, .ref a2, .ref a3, .ref a4, .ref a5, .ref a6, .ref a7, .ref a8, .ref a9, .ref a10])), (a1, .inl (T 0, 10, .inl af1)), (a2, .inl (T 0, 10, .inl af2))] H locs := V _ [] rfl rfl rfl (by decide +kernel) rfl
                show W p l e _ s m args below meth c H locs _ _ _ (F0 m 72 ls [.int (nI 1)])
                refine lv_if_ne (tgt := 139) hx hb dX0_layFrom_72 (by decide) (fun _ => ?_) (fun c => absurd (show (nI 1) = 0 from c) (by decide +kernel))
                refine lv_iinc (v := (nI (k57 + 1))) (lv' := [(5, .int (nI (k57 + 1))), (0, .ref y0), (1, .ref a0), (2, .int (nI 2)), (3, .int tk), (4, .int sum)]) hx hb dX0_layFrom_139 hl (k := 0) rfl (nI_1 _) (by decide) rfl (fun ls hl => ?_)
                refine lv_goto (tgt := 57) hx hb dX0_layFrom_142 (by decide) ?_
                exact ih_57 (k57 + 1) bv ga gb (by omega) (by assumption) (by omega) _ _ _ V (lv_sub hl [0, 1, 2, 3, 4, 5] rfl)
              · have V : gW D T A s [(y0, .inr (0, [.int bv, .ref y1, .ref y2])), (y1, .inl (T 0, 7, .inl ga)), (y2, .inl (T 0, 7, .inl gb)), (a0, .inr (5, [.int (nI an), .int am, .int al, .int ao, .int au, .ref a1, .ref a2, .ref a3, .ref a4, .ref a5, .ref a6, .ref a7, .ref a8, .ref a9, .ref a10])), (a1, .inl (T 0, 10, .inl af1)), (a2, .inl (T 0, 10, .inl af2))] H locs := V _ [] rfl rfl rfl (by decide +kernel) rfl
                show W p l e _ s m args below meth c H locs _ _ _ (F0 m 72 ls [.int (nI 0)])
                refine lv_if_ne (tgt := 139) hx hb dX0_layFrom_72 (by decide) (fun c => absurd (show (nI 0) = 0 by decide +kernel) c) (fun _ => ?_)
                refine lv_aload_n hx hb dX0_layFrom_75 rfl (lv_at hl 1 rfl) ?_
                refine lv_aload_n hx hb dX0_layFrom_76 rfl (lv_at hl 2 rfl) ?_
                refine lv_iload_n hx hb dX0_layFrom_77 rfl (lv_at hl 3 rfl) ?_
                refine lv_iload hx hb dX0_layFrom_78 (lv_at hl 0 rfl) ?_
                refine g_callVU (nA := 3) hC V hl.1 (y_closes l D T y0 a0 2 k57 bv y1 y2 gb an am al ao au a1 a2 a3 a4 a5 a6 a7 a8 a9 a10 (by first | assumption | omega) hgb (by first | assumption | omega) (by first | assumption | omega)) w_810 w_812 w_s32 w_7 w_813 (by decide +kernel) rfl ⟨(Nat.le_of_ble_eq_true rfl), (Nat.le_of_ble_eq_true rfl)⟩ 0 (ci := 0) rfl rfl [0, 2, 3] rfl rfl (Nat.le_of_ble_eq_true rfl) dX0_layFrom_80 ⟨(Nat.le_of_ble_eq_true rfl), (Nat.le_of_ble_eq_true rfl)⟩ rfl (fun r w1 H locs hQ V => ?_)
                rcases hQ with ⟨rfl, rfl⟩ | ⟨rfl, rfl⟩
                · have V : gW D T A s [(y0, .inr (0, [.int bv, .ref y1, .ref y2])), (y1, .inl (T 0, 7, .inl ga)), (y2, .inl (T 0, 7, .inl gb)), (a0, .inr (5, [.int (nI an), .int am, .int al, .int ao, .int au, .ref a1, .ref a2, .ref a3, .ref a4, .ref a5, .ref a6, .ref a7, .ref a8, .ref a9, .ref a10])), (a1, .inl (T 0, 10, .inl af1)), (a2, .inl (T 0, 10, .inl af2))] H locs := V _ [0, 1, 0] rfl rfl rfl (by decide +kernel) rfl
                  show W p l e _ s m args below meth c H locs _ _ _ (F0 m 83 ls [.int (nI 1)])
                  refine lv_if_ne (tgt := 139) hx hb dX0_layFrom_83 (by decide) (fun _ => ?_) (fun c => absurd (show (nI 1) = 0 from c) (by decide +kernel))
                  refine lv_iinc (v := (nI (k57 + 1))) (lv' := [(5, .int (nI (k57 + 1))), (0, .ref y0), (1, .ref a0), (2, .int (nI 2)), (3, .int tk), (4, .int sum)]) hx hb dX0_layFrom_139 hl (k := 0) rfl (nI_1 _) (by decide) rfl (fun ls hl => ?_)
                  refine lv_goto (tgt := 57) hx hb dX0_layFrom_142 (by decide) ?_
                  exact ih_57 (k57 + 1) bv ga gb (by omega) (by assumption) (by omega) _ _ _ V (lv_sub hl [0, 1, 2, 3, 4, 5] rfl)
                · have V : gW D T A s [(y0, .inr (0, [.int bv, .ref y1, .ref y2])), (y1, .inl (T 0, 7, .inl ga)), (y2, .inl (T 0, 7, .inl gb)), (a0, .inr (5, [.int (nI an), .int am, .int al, .int ao, .int au, .ref a1, .ref a2, .ref a3, .ref a4, .ref a5, .ref a6, .ref a7, .ref a8, .ref a9, .ref a10])), (a1, .inl (T 0, 10, .inl af1)), (a2, .inl (T 0, 10, .inl af2))] H locs := V _ [0, 1, 0] rfl rfl rfl (by decide +kernel) rfl
                  show W p l e _ s m args below meth c H locs _ _ _ (F0 m 83 ls [.int (nI 0)])
                  refine lv_if_ne (tgt := 139) hx hb dX0_layFrom_83 (by decide) (fun c => absurd (show (nI 0) = 0 by decide +kernel) c) (fun _ => ?_)
                  refine lv_aload_n hx hb dX0_layFrom_86 rfl (lv_at hl 1 rfl) ?_
                  refine g_get hC V (ci := 0) uwX0 0 rfl rfl 2 (by decide) w_215 rfl rfl dX0_layFrom_87 ?_
                  refine lv_iload_n hx hb dX0_layFrom_90 rfl (lv_at hl 3 rfl) ?_
                  refine lv_iload hx hb dX0_layFrom_91 (lv_at hl 0 rfl) ?_
                  refine g_iast hC V 2 rfl (vp_in_nI (by decide) (by decide)) (f' := (upd gb 2 (nI k57))) (by rw [nI_clamp (by decide)]) (ws' := [(y0, .inr (0, [.int bv, .ref y1, .ref y2])), (y1, .inl (T 0, 7, .inl ga)), (y2, .inl (T 0, 7, .inl (upd gb 2 (nI k57)))), (a0, .inr (5, [.int (nI an), .int am, .int al, .int ao, .int au, .ref a1, .ref a2, .ref a3, .ref a4, .ref a5, .ref a6, .ref a7, .ref a8, .ref a9, .ref a10])), (a1, .inl (T 0, 10, .inl af1)), (a2, .inl (T 0, 10, .inl af2))]) rfl dX0_layFrom_93 (fun H locs V => ?_)
                  refine lv_aload_n hx hb dX0_layFrom_94 rfl (lv_at hl 2 rfl) ?_
                  refine g_get hC V (ci := 5) uwX5 3 rfl rfl 5 (by decide) w_52 rfl rfl dX0_layFrom_95 ?_
                  refine lv_iload_n hx hb dX0_layFrom_98 rfl (lv_at hl 3 rfl) ?_
                  refine g_iald hC V 4 rfl (vp_in_nI (by decide) (by decide)) (v := (af1 2)) (congrArg _ (nI_clamp (by decide))) dX0_layFrom_99 ?_
                  refine lv_aload_n hx hb dX0_layFrom_100 rfl (lv_at hl 2 rfl) ?_
                  refine g_get hC V (ci := 5) uwX5 3 rfl rfl 6 (by decide) w_58 rfl rfl dX0_layFrom_101 ?_
                  refine lv_iload hx hb dX0_layFrom_104 (lv_at hl 0 rfl) ?_
                  refine g_iald hC V 5 rfl (vp_in_nI (by omega) (by omega)) (v := (af2 k57)) (congrArg _ (nI_clamp (by omega))) dX0_layFrom_106 ?_
                  refine lv_isub hx hb dX0_layFrom_107 ?_
                  refine va_mabs hx hb (hml.trans hl.1.symm) hown (hts _ w_814) (hts _ w_815) (hts _ w_10) (hts _ w_816) (Nat.le_of_ble_eq_true rfl) (Nat.le_of_ble_eq_true rfl) (Nat.le_of_ble_eq_true rfl) (Nat.le_of_ble_eq_true rfl) dX0_layFrom_108 ?_
                  refine lv_topi (fun x_16 ex_16 => ?_)
                  refine lv_istore (lv' := [(6, .int x_16), (5, .int (nI k57)), (0, .ref y0), (1, .ref a0), (2, .int (nI 2)), (3, .int tk), (4, .int sum)]) hx hb dX0_layFrom_111 hl (by decide) rfl (fun ls hl => ?_)
                  refine lv_aload_n hx hb dX0_layFrom_113 rfl (lv_at hl 2 rfl) ?_
                  refine lv_aload_n hx hb dX0_layFrom_114 rfl (lv_at hl 3 rfl) ?_
                  refine lv_iload_n hx hb dX0_layFrom_115 rfl (lv_at hl 4 rfl) ?_
                  refine lv_iconst (v := (nI 1)) hx hb dX0_layFrom_116 (by decide +kernel) ?_
                  refine lv_iadd hx hb dX0_layFrom_117 ?_
                  refine g_vi (y := (nI 3)) (by decide +kernel) ?_
                  refine lv_iload_n hx hb dX0_layFrom_118 rfl (lv_at hl 5 rfl) ?_
                  refine lv_iconst (v := (nI 1)) hx hb dX0_layFrom_119 (by decide +kernel) ?_
                  refine lv_iload hx hb dX0_layFrom_120 (lv_at hl 1 rfl) ?_
                  refine lv_ishl hx hb dX0_layFrom_122 ?_
                  refine lv_ior hx hb dX0_layFrom_123 ?_
                  refine lv_iload hx hb dX0_layFrom_124 (lv_at hl 6 rfl) ?_
                  refine lv_iload hx hb dX0_layFrom_126 (lv_at hl 0 rfl) ?_
                  refine lv_iadd hx hb dX0_layFrom_128 ?_
                  refine g_callV (wr := []) (nA := 4) hC V hl.1 (y_lay3 l D T y0 a0 (tk ||| ((nI 1) <<< ((nI k57) &&& 31))) (sum + x_16) bv y1 y2 ga (upd gb 2 (nI k57)) an am al ao au a1 a2 a3 a4 a5 a6 a7 a8 a9 a10 af1 af2 (by first | assumption | omega) (up_all (p := fun x => x = -1 ∨ bd x 7) hgb (fun _ => Or.inr (bd_nI (by omega))))) w_804 w_806 w_s31 w_7 w_807 (by decide +kernel) rfl ⟨(Nat.le_of_ble_eq_true rfl), (Nat.le_of_ble_eq_true rfl)⟩ 0 (ci := 0) rfl rfl [0, 1, 2, 3, 4, 5] [] rfl rfl rfl rfl (by decide) (Nat.le_of_ble_eq_true rfl) dX0_layFrom_129 ⟨(Nat.le_of_ble_eq_true rfl), (Nat.le_of_ble_eq_true rfl)⟩ rfl (fun r w1 H locs hQ V => ?_)
                  obtain ⟨bs_17, g1_18, g2_19, rfl, rfl, f_20⟩ := hQ
                  have V : gW D T A s [(y0, .inr (0, [.int bs_17, .ref y1, .ref y2])), (y1, .inl (T 0, 7, .inl g1_18)), (y2, .inl (T 0, 7, .inl g2_19)), (a0, .inr (5, [.int (nI an), .int am, .int al, .int ao, .int au, .ref a1, .ref a2, .ref a3, .ref a4, .ref a5, .ref a6, .ref a7, .ref a8, .ref a9, .ref a10])), (a1, .inl (T 0, 10, .inl af1)), (a2, .inl (T 0, 10, .inl af2))] H locs := V
                  show W p l e _ s m args below meth c H locs _ _ _ (F0 m 132 ls [])
                  have hq := up_all (p := fun x => x = -1 ∨ bd x 7) (k := 2) (x := -1) f_20 (fun _ => Or.inl rfl)
                  refine lv_aload_n hx hb dX0_layFrom_132 rfl (lv_at hl 2 rfl) ?_
                  refine g_get hC V (ci := 0) uwX0 0 rfl rfl 2 (by decide) w_215 rfl rfl dX0_layFrom_133 ?_
                  refine lv_iload_n hx hb dX0_layFrom_136 rfl (lv_at hl 4 rfl) ?_
                  refine lv_iconst (v := (-1)) hx hb dX0_layFrom_137 (by decide +kernel) ?_
                  refine g_iast hC V 2 rfl (vp_in_nI (by decide) (by decide)) (f' := (upd g2_19 2 (-1))) (by rw [nI_clamp (by decide)]) (ws' := [(y0, .inr (0, [.int bs_17, .ref y1, .ref y2])), (y1, .inl (T 0, 7, .inl g1_18)), (y2, .inl (T 0, 7, .inl (upd g2_19 2 (-1)))), (a0, .inr (5, [.int (nI an), .int am, .int al, .int ao, .int au, .ref a1, .ref a2, .ref a3, .ref a4, .ref a5, .ref a6, .ref a7, .ref a8, .ref a9, .ref a10])), (a1, .inl (T 0, 10, .inl af1)), (a2, .inl (T 0, 10, .inl af2))]) rfl dX0_layFrom_138 (fun H locs V => ?_)
                  refine lv_iinc (v := (nI (k57 + 1))) (lv' := [(5, .int (nI (k57 + 1))), (6, .int x_16), (0, .ref y0), (1, .ref a0), (2, .int (nI 2)), (3, .int tk), (4, .int sum)]) hx hb dX0_layFrom_139 hl (k := 1) rfl (nI_1 _) (by decide) rfl (fun ls hl => ?_)
                  refine lv_goto (tgt := 57) hx hb dX0_layFrom_142 (by decide) ?_
                  exact ih_57 (k57 + 1) bs_17 g1_18 (upd g2_19 2 (-1)) (by omega) (by assumption) (by omega) _ _ _ V (lv_sub hl [0, 2, 3, 4, 5, 6] rfl)
        exact L_14 _ 0 ys yb yt (by omega) h_yt (Nat.lt_succ_self _) _ _ _ V (lv_sub hl [0, 1, 2, 3, 4, 5] rfl)
    · skip
      exact g_vret (Qr := (q_y_lay2 T y0 a0 tk sum ys y1 y2 yb yt an am al ao au a1 a2 a3 a4 a5 a6 a7 a8 a9 a10 af1 af2)) hC V ⟨(Nat.le_of_ble_eq_true rfl), (Nat.le_of_ble_eq_true rfl)⟩ ⟨ys, yb, yt, rfl, rfl, (by first | assumption | omega)⟩ dX0_layFrom_17

def q_y_lay1 (T : Nat → ClassId) (y0 : Nat) (a0 : Nat) (tk : Int32) (sum : Int32) (ys : Int32) (y1 : Nat) (y2 : Nat) (yb : Nat → Int32) (yt : Nat → Int32) (an : Nat) (am : Int32) (al : Int32) (ao : Int32) (au : Int32) (a1 : Nat) (a2 : Nat) (a3 : Nat) (a4 : Nat) (a5 : Nat) (a6 : Nat) (a7 : Nat) (a8 : Nat) (a9 : Nat) (a10 : Nat) (af1 : Nat → Int32) (af2 : Nat → Int32) : Option Value → va_W → Prop := fun rr ww => (∃ (bs : Int32) (g1 : Nat → Int32) (g2 : Nat → Int32), rr = none ∧ ww = [(y0, .inr (0, [.int bs, .ref y1, .ref y2])), (y1, .inl (T 0, 7, .inl g1)), (y2, .inl (T 0, 7, .inl g2)), (a0, .inr (5, [.int (nI an), .int am, .int al, .int ao, .int au, .ref a1, .ref a2, .ref a3, .ref a4, .ref a5, .ref a6, .ref a7, .ref a8, .ref a9, .ref a10])), (a1, .inl (T 0, 10, .inl af1)), (a2, .inl (T 0, 10, .inl af2))] ∧ (∀ i, i < 7 → (g2 i = -1 ∨ bd (g2 i) 7)))
set_option maxHeartbeats 4000000 in
set_option maxRecDepth 100000 in
theorem y_lay1 (l : Launch) (D : va_G) (T : Nat → ClassId) (y0 : Nat) (a0 : Nat) (tk : Int32) (sum : Int32) (ys : Int32) (y1 : Nat) (y2 : Nat) (yb : Nat → Int32) (yt : Nat → Int32) (an : Nat) (am : Int32) (al : Int32) (ao : Int32) (au : Int32) (a1 : Nat) (a2 : Nat) (a3 : Nat) (a4 : Nat) (a5 : Nat) (a6 : Nat) (a7 : Nat) (a8 : Nat) (a9 : Nat) (a10 : Nat) (af1 : Nat → Int32) (af2 : Nat → Int32) (h_n : an ≤ 7) (h_yt : ∀ i, i < 7 → (yt i = -1 ∨ bd (yt i) 7)) : Ct l yX0_layFrom cX0_layFrom 7 none 8 0 0 D T [.ref y0, .ref a0, .int (nI 1), .int tk, .int sum] [(y0, .inr (0, [.int ys, .ref y1, .ref y2])), (y1, .inl (T 0, 7, .inl yb)), (y2, .inl (T 0, 7, .inl yt)), (a0, .inr (5, [.int (nI an), .int am, .int al, .int ao, .int au, .ref a1, .ref a2, .ref a3, .ref a4, .ref a5, .ref a6, .ref a7, .ref a8, .ref a9, .ref a10])), (a1, .inl (T 0, 10, .inl af1)), (a2, .inl (T 0, 10, .inl af2))] (q_y_lay1 T y0 a0 tk sum ys y1 y2 yb yt an am al ao au a1 a2 a3 a4 a5 a6 a7 a8 a9 a10 af1 af2) := by
  refine Ct.of (cc := cX0_layFrom) (maxL := 7) (ret := none) (by decide) (Nat.le_of_ble_eq_true rfl) ?_
  intro p e s m args below meth c A ls hC hnm V hl
  obtain ⟨hx, hb, hr, hml, hown, hts, hlocks⟩ := id hC
  generalize hH : s.heap = H at V ⊢
  clear hH
  have hl : lv_has ls 7 [(0, .ref y0), (1, .ref a0), (2, .int (nI 1)), (3, .int tk), (4, .int sum)] := hl
  generalize hlo : ([] : List Loc) = locs at V ⊢
  clear hlo
  refine lv_aload_n hx hb dX0_layFrom_0 rfl (lv_at hl 0 rfl) ?_
  refine g_get hC V (ci := 0) uwX0 0 rfl rfl 0 (by decide) w_211 rfl rfl dX0_layFrom_1 ?_
  refine lv_iconst (v := (-1)) hx hb dX0_layFrom_4 (by decide +kernel) ?_
  refine lv_icmp_eq (tgt := 18) hx hb dX0_layFrom_5 (by decide) (fun c_1 => ?_) (fun c_1 => ?_)
  · skip
    refine lv_iload_n hx hb dX0_layFrom_18 rfl (lv_at hl 2 rfl) ?_
    refine lv_aload_n hx hb dX0_layFrom_19 rfl (lv_at hl 1 rfl) ?_
    refine g_get hC V (ci := 5) uwX5 3 rfl rfl 0 (by decide) w_35 rfl rfl dX0_layFrom_20 ?_
    refine lv_icmp_ge (tgt := 32) hx hb dX0_layFrom_23 (by decide) (fun c_2 => ?_) (fun c_2 => ?_)
    · skip
      have c_2 := b_le (by omega) (by omega) c_2
      refine lv_aload_n hx hb dX0_layFrom_32 rfl (lv_at hl 0 rfl) ?_
      refine lv_iload hx hb dX0_layFrom_33 (lv_at hl 4 rfl) ?_
      refine g_put hC V (ci := 0) uwX0 tyX0 tyX0_ok nmX0 0 rfl rfl 0 (by decide) w_211 rfl rfl rfl rfl (Nat.le_of_ble_eq_true rfl) (ws' := [(y0, .inr (0, [.int sum, .ref y1, .ref y2])), (y1, .inl (T 0, 7, .inl yb)), (y2, .inl (T 0, 7, .inl yt)), (a0, .inr (5, [.int (nI an), .int am, .int al, .int ao, .int au, .ref a1, .ref a2, .ref a3, .ref a4, .ref a5, .ref a6, .ref a7, .ref a8, .ref a9, .ref a10])), (a1, .inl (T 0, 10, .inl af1)), (a2, .inl (T 0, 10, .inl af2))]) rfl dX0_layFrom_35 (fun H locs V => ?_)
      refine lv_aload_n hx hb dX0_layFrom_38 rfl (lv_at hl 0 rfl) ?_
      refine g_get hC V (ci := 0) uwX0 0 rfl rfl 2 (by decide) w_215 rfl rfl dX0_layFrom_39 ?_
      refine lv_iconst (v := (nI 0)) hx hb dX0_layFrom_42 (by decide +kernel) ?_
      refine lv_aload_n hx hb dX0_layFrom_43 rfl (lv_at hl 0 rfl) ?_
      refine g_get hC V (ci := 0) uwX0 0 rfl rfl 1 (by decide) w_213 rfl rfl dX0_layFrom_44 ?_
      refine lv_iconst (v := (nI 0)) hx hb dX0_layFrom_47 (by decide +kernel) ?_
      refine lv_bipush (v := (nI 7)) hx hb dX0_layFrom_48 (by decide +kernel) ?_
      refine g_copyi hC V hl.1 w_808 w_672 w_671 w_17 2 1 rfl rfl (by decide +kernel) (by decide +kernel) (Nat.le_of_ble_eq_true rfl) (Nat.le_of_ble_eq_true rfl) (Nat.le_of_ble_eq_true rfl) dX0_layFrom_50 (fun g_3 H locs V => ?_)
      have V : gW D T A s [(y0, .inr (0, [.int sum, .ref y1, .ref y2])), (y1, .inl (T 0, 7, .inl g_3)), (y2, .inl (T 0, 7, .inl yt)), (a0, .inr (5, [.int (nI an), .int am, .int al, .int ao, .int au, .ref a1, .ref a2, .ref a3, .ref a4, .ref a5, .ref a6, .ref a7, .ref a8, .ref a9, .ref a10])), (a1, .inl (T 0, 10, .inl af1)), (a2, .inl (T 0, 10, .inl af2))] H locs := V
      exact g_vret (Qr := (q_y_lay1 T y0 a0 tk sum ys y1 y2 yb yt an am al ao au a1 a2 a3 a4 a5 a6 a7 a8 a9 a10 af1 af2)) hC V ⟨(Nat.le_of_ble_eq_true rfl), (Nat.le_of_ble_eq_true rfl)⟩ ⟨sum, g_3, yt, rfl, rfl, (by first | assumption | omega)⟩ dX0_layFrom_53
    · skip
      have c_2 := b_nle (by omega) (by omega) c_2
      refine lv_iload_n hx hb dX0_layFrom_26 rfl (lv_at hl 2 rfl) ?_
      refine lv_bipush (v := (nI 7)) hx hb dX0_layFrom_27 (by decide +kernel) ?_
      refine lv_icmp_lt (tgt := 54) hx hb dX0_layFrom_29 (by decide) (fun _ => ?_) (fun c => absurd (show (nI 1) < (nI 7) by first | rfl | decide +kernel) c)
      refine lv_iconst (v := (nI 0)) hx hb dX0_layFrom_54 (by decide +kernel) ?_
      refine lv_istore (lv' := [(5, .int (nI 0)), (0, .ref y0), (1, .ref a0), (2, .int (nI 1)), (3, .int tk), (4, .int sum)]) hx hb dX0_layFrom_55 hl (by decide) rfl (fun ls hl => ?_)
      have L_4 : ∀ (fu : Nat) (k57 : Nat) (bv : Int32) (ga : Nat → Int32) (gb : Nat → Int32), k57 ≤ an → (∀ i, i < 7 → (gb i = -1 ∨ bd (gb i) 7)) → an - k57 < fu → ∀ (H : Heap) (locs : List Loc) (ls : Array Slot), gW D T A s [(y0, .inr (0, [.int bv, .ref y1, .ref y2])), (y1, .inl (T 0, 7, .inl ga)), (y2, .inl (T 0, 7, .inl gb)), (a0, .inr (5, [.int (nI an), .int am, .int al, .int ao, .int au, .ref a1, .ref a2, .ref a3, .ref a4, .ref a5, .ref a6, .ref a7, .ref a8, .ref a9, .ref a10])), (a1, .inl (T 0, 10, .inl af1)), (a2, .inl (T 0, 10, .inl af2))] H locs → lv_has ls 7 [(5, .int (nI k57)), (0, .ref y0), (1, .ref a0), (2, .int (nI 1)), (3, .int tk), (4, .int sum)] → W p l e (rmD 8 0 0) s m args below meth c H locs 0 0 (MQ below (gQ D A (q_y_lay1 T y0 a0 tk sum ys y1 y2 yb yt an am al ao au a1 a2 a3 a4 a5 a6 a7 a8 a9 a10 af1 af2)) args s 0 0 A) (F0 m 57 ls []) := by
        intro fu_57
        induction fu_57 with
        | zero => intro k57 bv ga gb hk57 hgb hmu; exact absurd hmu (Nat.not_lt_zero _)
        | succ fu_57 ih_57 =>
          intro k57 bv ga gb hk57 hgb hmu_57 H locs ls V hl
          refine lv_iload hx hb dX0_layFrom_57 (lv_at hl 0 rfl) ?_
          refine lv_aload_n hx hb dX0_layFrom_59 rfl (lv_at hl 2 rfl) ?_
          refine g_get hC V (ci := 5) uwX5 3 rfl rfl 0 (by decide) w_35 rfl rfl dX0_layFrom_60 ?_
          refine lv_icmp_ge (tgt := 145) hx hb dX0_layFrom_63 (by decide) (fun c_5 => ?_) (fun c_5 => ?_)
          · skip
            have c_5 := b_le (by omega) (by omega) c_5
            exact g_vret (Qr := (q_y_lay1 T y0 a0 tk sum ys y1 y2 yb yt an am al ao au a1 a2 a3 a4 a5 a6 a7 a8 a9 a10 af1 af2)) hC V ⟨(Nat.le_of_ble_eq_true rfl), (Nat.le_of_ble_eq_true rfl)⟩ ⟨bv, ga, gb, rfl, rfl, (by first | assumption | omega)⟩ dX0_layFrom_145
          · skip
            have c_5 := b_nle (by omega) (by omega) c_5
            refine lv_iload_n hx hb dX0_layFrom_66 rfl (lv_at hl 4 rfl) ?_
            refine lv_iload hx hb dX0_layFrom_67 (lv_at hl 0 rfl) ?_
            refine g_callSNU (nA := 2) (host := RX7) hC V hl.1 (c_isIn l D T tk (nI k57)) w_472 (List.mem_of_getElem? (i := 7) rfl) w_2 w_471 (by decide +kernel) rfl ⟨(Nat.le_of_ble_eq_true rfl), (Nat.le_of_ble_eq_true rfl)⟩ [] rfl rfl (Nat.le_of_ble_eq_true rfl) dX0_layFrom_69 ⟨(Nat.le_of_ble_eq_true rfl), (Nat.le_of_ble_eq_true rfl)⟩ rfl (fun r w1 H locs hQ V => ?_)
            rcases hQ with ⟨rfl, rfl⟩ | ⟨rfl, rfl⟩
            · have V : gW D T A s [(y0, .inr (0, [.int bv, .ref y1, .ref y2])), (y1, .inl (T 0, 7, .inl ga)), (y2, .inl (T 0, 7, .inl gb)), (a0, .inr (5, [.int (nI an), .int am, .int al, .int ao, .int au, .ref a1, .ref a2, .ref a3, .ref a4, .ref a5, .ref a6, .ref a7, .ref a8, .ref a9, .ref a10])), (a1, .inl (T 0, 10, .inl af1)), (a2, .inl (T 0, 10, .inl af2))] H locs := V _ [] rfl rfl rfl (by decide +kernel) rfl
              show W p l e _ s m args below meth c H locs _ _ _ (F0 m 72 ls [.int (nI 1)])
              refine lv_if_ne (tgt := 139) hx hb dX0_layFrom_72 (by decide) (fun _ => ?_) (fun c => absurd (show (nI 1) = 0 from c) (by decide +kernel))
              refine lv_iinc (v := (nI (k57 + 1))) (lv' := [(5, .int (nI (k57 + 1))), (0, .ref y0), (1, .ref a0), (2, .int (nI 1)), (3, .int tk), (4, .int sum)]) hx hb dX0_layFrom_139 hl (k := 0) rfl (nI_1 _) (by decide) rfl (fun ls hl => ?_)
              refine lv_goto (tgt := 57) hx hb dX0_layFrom_142 (by decide) ?_
              exact ih_57 (k57 + 1) bv ga gb (by omega) (by assumption) (by omega) _ _ _ V (lv_sub hl [0, 1, 2, 3, 4, 5] rfl)
            · have V : gW D T A s [(y0, .inr (0, [.int bv, .ref y1, .ref y2])), (y1, .inl (T 0, 7, .inl ga)), (y2, .inl (T 0, 7, .inl gb)), (a0, .inr (5, [.int (nI an), .int am, .int al, .int ao, .int au, .ref a1, .ref a2, .ref a3, .ref a4, .ref a5, .ref a6, .ref a7, .ref a8, .ref a9, .ref a10])), (a1, .inl (T 0, 10, .inl af1)), (a2, .inl (T 0, 10, .inl af2))] H locs := V _ [] rfl rfl rfl (by decide +kernel) rfl
              show W p l e _ s m args below meth c H locs _ _ _ (F0 m 72 ls [.int (nI 0)])
              refine lv_if_ne (tgt := 139) hx hb dX0_layFrom_72 (by decide) (fun c => absurd (show (nI 0) = 0 by decide +kernel) c) (fun _ => ?_)
              refine lv_aload_n hx hb dX0_layFrom_75 rfl (lv_at hl 1 rfl) ?_
              refine lv_aload_n hx hb dX0_layFrom_76 rfl (lv_at hl 2 rfl) ?_
              refine lv_iload_n hx hb dX0_layFrom_77 rfl (lv_at hl 3 rfl) ?_
              refine lv_iload hx hb dX0_layFrom_78 (lv_at hl 0 rfl) ?_
              refine g_callVU (nA := 3) hC V hl.1 (y_closes l D T y0 a0 1 k57 bv y1 y2 gb an am al ao au a1 a2 a3 a4 a5 a6 a7 a8 a9 a10 (by first | assumption | omega) hgb (by first | assumption | omega) (by first | assumption | omega)) w_810 w_812 w_s32 w_7 w_813 (by decide +kernel) rfl ⟨(Nat.le_of_ble_eq_true rfl), (Nat.le_of_ble_eq_true rfl)⟩ 0 (ci := 0) rfl rfl [0, 2, 3] rfl rfl (Nat.le_of_ble_eq_true rfl) dX0_layFrom_80 ⟨(Nat.le_of_ble_eq_true rfl), (Nat.le_of_ble_eq_true rfl)⟩ rfl (fun r w1 H locs hQ V => ?_)
              rcases hQ with ⟨rfl, rfl⟩ | ⟨rfl, rfl⟩
              · have V : gW D T A s [(y0, .inr (0, [.int bv, .ref y1, .ref y2])), (y1, .inl (T 0, 7, .inl ga)), (y2, .inl (T 0, 7, .inl gb)), (a0, .inr (5, [.int (nI an), .int am, .int al, .int ao, .int au, .ref a1, .ref a2, .ref a3, .ref a4, .ref a5, .ref a6, .ref a7, .ref a8, .ref a9, .ref a10])), (a1, .inl (T 0, 10, .inl af1)), (a2, .inl (T 0, 10, .inl af2))] H locs := V _ [0, 1, 0] rfl rfl rfl (by decide +kernel) rfl
                show W p l e _ s m args below meth c H locs _ _ _ (F0 m 83 ls [.int (nI 1)])
                refine lv_if_ne (tgt := 139) hx hb dX0_layFrom_83 (by decide) (fun _ => ?_) (fun c => absurd (show (nI 1) = 0 from c) (by decide +kernel))
                refine lv_iinc (v := (nI (k57 + 1))) (lv' := [(5, .int (nI (k57 + 1))), (0, .ref y0), (1, .ref a0), (2, .int (nI 1)), (3, .int tk), (4, .int sum)]) hx hb dX0_layFrom_139 hl (k := 0) rfl (nI_1 _) (by decide) rfl (fun ls hl => ?_)
                refine lv_goto (tgt := 57) hx hb dX0_layFrom_142 (by decide) ?_
                exact ih_57 (k57 + 1) bv ga gb (by omega) (by assumption) (by omega) _ _ _ V (lv_sub hl [0, 1, 2, 3, 4, 5] rfl)
              · have V : gW D T A s [(y0, .inr (0, [.int bv, .ref y1, .ref y2])), (y1, .inl (T 0, 7, .inl ga)), (y2, .inl (T 0, 7, .inl gb)), (a0, .inr (5, [.int (nI an), .int am, .int al, .int ao, .int au, .ref a1, .ref a2, .ref a3, .ref a4, .ref a5, .ref a6, .ref a7, .ref a8, .ref a9, .ref a10])), (a1, .inl (T 0, 10, .inl af1)), (a2, .inl (T 0, 10, .inl af2))] H locs := V _ [0, 1, 0] rfl rfl rfl (by decide +kernel) rfl
                show W p l e _ s m args below meth c H locs _ _ _ (F0 m 83 ls [.int (nI 0)])
                refine lv_if_ne (tgt := 139) hx hb dX0_layFrom_83 (by decide) (fun c => absurd (show (nI 0) = 0 by decide +kernel) c) (fun _ => ?_)
                refine lv_aload_n hx hb dX0_layFrom_86 rfl (lv_at hl 1 rfl) ?_
                refine g_get hC V (ci := 0) uwX0 0 rfl rfl 2 (by decide) w_215 rfl rfl dX0_layFrom_87 ?_
                refine lv_iload_n hx hb dX0_layFrom_90 rfl (lv_at hl 3 rfl) ?_
                refine lv_iload hx hb dX0_layFrom_91 (lv_at hl 0 rfl) ?_
                refine g_iast hC V 2 rfl (vp_in_nI (by decide) (by decide)) (f' := (upd gb 1 (nI k57))) (by rw [nI_clamp (by decide)]) (ws' := [(y0, .inr (0, [.int bv, .ref y1, .ref y2])), (y1, .inl (T 0, 7, .inl ga)), (y2, .inl (T 0, 7, .inl (upd gb 1 (nI k57)))), (a0, .inr (5, [.int (nI an), .int am, .int al, .int ao, .int au, .ref a1, .ref a2, .ref a3, .ref a4, .ref a5, .ref a6, .ref a7, .ref a8, .ref a9, .ref a10])), (a1, .inl (T 0, 10, .inl af1)), (a2, .inl (T 0, 10, .inl af2))]) rfl dX0_layFrom_93 (fun H locs V => ?_)
                refine lv_aload_n hx hb dX0_layFrom_94 rfl (lv_at hl 2 rfl) ?_
                refine g_get hC V (ci := 5) uwX5 3 rfl rfl 5 (by decide) w_52 rfl rfl dX0_layFrom_95 ?_
                refine lv_iload_n hx hb dX0_layFrom_98 rfl (lv_at hl 3 rfl) ?_
                refine g_iald hC V 4 rfl (vp_in_nI (by decide) (by decide)) (v := (af1 1)) (congrArg _ (nI_clamp (by decide))) dX0_layFrom_99 ?_
                refine lv_aload_n hx hb dX0_layFrom_100 rfl (lv_at hl 2 rfl) ?_
                refine g_get hC V (ci := 5) uwX5 3 rfl rfl 6 (by decide) w_58 rfl rfl dX0_layFrom_101 ?_
                refine lv_iload hx hb dX0_layFrom_104 (lv_at hl 0 rfl) ?_
                refine g_iald hC V 5 rfl (vp_in_nI (by omega) (by omega)) (v := (af2 k57)) (congrArg _ (nI_clamp (by omega))) dX0_layFrom_106 ?_
                refine lv_isub hx hb dX0_layFrom_107 ?_
                refine va_mabs hx hb (hml.trans hl.1.symm) hown (hts _ w_814) (hts _ w_815) (hts _ w_10) (hts _ w_816) (Nat.le_of_ble_eq_true rfl) (Nat.le_of_ble_eq_true rfl) (Nat.le_of_ble_eq_true rfl) (Nat.le_of_ble_eq_true rfl) dX0_layFrom_108 ?_
                refine lv_topi (fun x_6 ex_6 => ?_)
                refine lv_istore (lv' := [(6, .int x_6), (5, .int (nI k57)), (0, .ref y0), (1, .ref a0), (2, .int (nI 1)), (3, .int tk), (4, .int sum)]) hx hb dX0_layFrom_111 hl (by decide) rfl (fun ls hl => ?_)
                refine lv_aload_n hx hb dX0_layFrom_113 rfl (lv_at hl 2 rfl) ?_
                refine lv_aload_n hx hb dX0_layFrom_114 rfl (lv_at hl 3 rfl) ?_
                refine lv_iload_n hx hb dX0_layFrom_115 rfl (lv_at hl 4 rfl) ?_
                refine lv_iconst (v := (nI 1)) hx hb dX0_layFrom_116 (by decide +kernel) ?_
                refine lv_iadd hx hb dX0_layFrom_117 ?_
                refine g_vi (y := (nI 2)) (by decide +kernel) ?_
                refine lv_iload_n hx hb dX0_layFrom_118 rfl (lv_at hl 5 rfl) ?_
                refine lv_iconst (v := (nI 1)) hx hb dX0_layFrom_119 (by decide +kernel) ?_
                refine lv_iload hx hb dX0_layFrom_120 (lv_at hl 1 rfl) ?_
                refine lv_ishl hx hb dX0_layFrom_122 ?_
                refine lv_ior hx hb dX0_layFrom_123 ?_
                refine lv_iload hx hb dX0_layFrom_124 (lv_at hl 6 rfl) ?_
                refine lv_iload hx hb dX0_layFrom_126 (lv_at hl 0 rfl) ?_
                refine lv_iadd hx hb dX0_layFrom_128 ?_
                refine g_callV (wr := []) (nA := 4) hC V hl.1 (y_lay2 l D T y0 a0 (tk ||| ((nI 1) <<< ((nI k57) &&& 31))) (sum + x_6) bv y1 y2 ga (upd gb 1 (nI k57)) an am al ao au a1 a2 a3 a4 a5 a6 a7 a8 a9 a10 af1 af2 (by first | assumption | omega) (up_all (p := fun x => x = -1 ∨ bd x 7) hgb (fun _ => Or.inr (bd_nI (by omega))))) w_804 w_806 w_s31 w_7 w_807 (by decide +kernel) rfl ⟨(Nat.le_of_ble_eq_true rfl), (Nat.le_of_ble_eq_true rfl)⟩ 0 (ci := 0) rfl rfl [0, 1, 2, 3, 4, 5] [] rfl rfl rfl rfl (by decide) (Nat.le_of_ble_eq_true rfl) dX0_layFrom_129 ⟨(Nat.le_of_ble_eq_true rfl), (Nat.le_of_ble_eq_true rfl)⟩ rfl (fun r w1 H locs hQ V => ?_)
                obtain ⟨bs_7, g1_8, g2_9, rfl, rfl, f_10⟩ := hQ
                have V : gW D T A s [(y0, .inr (0, [.int bs_7, .ref y1, .ref y2])), (y1, .inl (T 0, 7, .inl g1_8)), (y2, .inl (T 0, 7, .inl g2_9)), (a0, .inr (5, [.int (nI an), .int am, .int al, .int ao, .int au, .ref a1, .ref a2, .ref a3, .ref a4, .ref a5, .ref a6, .ref a7, .ref a8, .ref a9, .ref a10])), (a1, .inl (T 0, 10, .inl af1)), (a2, .inl (T 0, 10, .inl af2))] H locs := V
                show W p l e _ s m args below meth c H locs _ _ _ (F0 m 132 ls [])
                have hq := up_all (p := fun x => x = -1 ∨ bd x 7) (k := 1) (x := -1) f_10 (fun _ => Or.inl rfl)
                refine lv_aload_n hx hb dX0_layFrom_132 rfl (lv_at hl 2 rfl) ?_
                refine g_get hC V (ci := 0) uwX0 0 rfl rfl 2 (by decide) w_215 rfl rfl dX0_layFrom_133 ?_
                refine lv_iload_n hx hb dX0_layFrom_136 rfl (lv_at hl 4 rfl) ?_
                refine lv_iconst (v := (-1)) hx hb dX0_layFrom_137 (by decide +kernel) ?_
                refine g_iast hC V 2 rfl (vp_in_nI (by decide) (by decide)) (f' := (upd g2_9 1 (-1))) (by rw [nI_clamp (by decide)]) (ws' := [(y0, .inr (0, [.int bs_7, .ref y1, .ref y2])), (y1, .inl (T 0, 7, .inl g1_8)), (y2, .inl (T 0, 7, .inl (upd g2_9 1 (-1)))), (a0, .inr (5, [.int (nI an), .int am, .int al, .int ao, .int au, .ref a1, .ref a2, .ref a3, .ref a4, .ref a5, .ref a6, .ref a7, .ref a8, .ref a9, .ref a10])), (a1, .inl (T 0, 10, .inl af1)), (a2, .inl (T 0, 10, .inl af2))]) rfl dX0_layFrom_138 (fun H locs V => ?_)
                refine lv_iinc (v := (nI (k57 + 1))) (lv' := [(5, .int (nI (k57 + 1))), (6, .int x_6), (0, .ref y0), (1, .ref a0), (2, .int (nI 1)), (3, .int tk), (4, .int sum)]) hx hb dX0_layFrom_139 hl (k := 1) rfl (nI_1 _) (by decide) rfl (fun ls hl => ?_)
                refine lv_goto (tgt := 57) hx hb dX0_layFrom_142 (by decide) ?_
                exact ih_57 (k57 + 1) bs_7 g1_8 (upd g2_9 1 (-1)) (by omega) (by assumption) (by omega) _ _ _ V (lv_sub hl [0, 2, 3, 4, 5, 6] rfl)
      exact L_4 _ 0 ys yb yt (by omega) h_yt (Nat.lt_succ_self _) _ _ _ V (lv_sub hl [0, 1, 2, 3, 4, 5] rfl)
  · skip
    refine lv_iload hx hb dX0_layFrom_8 (lv_at hl 4 rfl) ?_
    refine lv_aload_n hx hb dX0_layFrom_10 rfl (lv_at hl 0 rfl) ?_
    refine g_get hC V (ci := 0) uwX0 0 rfl rfl 0 (by decide) w_211 rfl rfl dX0_layFrom_11 ?_
    refine lv_icmp_lt (tgt := 18) hx hb dX0_layFrom_14 (by decide) (fun c_11 => ?_) (fun c_11 => ?_)
    · skip
      refine lv_iload_n hx hb dX0_layFrom_18 rfl (lv_at hl 2 rfl) ?_
      refine lv_aload_n hx hb dX0_layFrom_19 rfl (lv_at hl 1 rfl) ?_
      refine g_get hC V (ci := 5) uwX5 3 rfl rfl 0 (by decide) w_35 rfl rfl dX0_layFrom_20 ?_
      refine lv_icmp_ge (tgt := 32) hx hb dX0_layFrom_23 (by decide) (fun c_12 => ?_) (fun c_12 => ?_)
      · skip
        have c_12 := b_le (by omega) (by omega) c_12
        refine lv_aload_n hx hb dX0_layFrom_32 rfl (lv_at hl 0 rfl) ?_
        refine lv_iload hx hb dX0_layFrom_33 (lv_at hl 4 rfl) ?_
        refine g_put hC V (ci := 0) uwX0 tyX0 tyX0_ok nmX0 0 rfl rfl 0 (by decide) w_211 rfl rfl rfl rfl (Nat.le_of_ble_eq_true rfl) (ws' := [(y0, .inr (0, [.int sum, .ref y1, .ref y2])), (y1, .inl (T 0, 7, .inl yb)), (y2, .inl (T 0, 7, .inl yt)), (a0, .inr (5, [.int (nI an), .int am, .int al, .int ao, .int au, .ref a1, .ref a2, .ref a3, .ref a4, .ref a5, .ref a6, .ref a7, .ref a8, .ref a9, .ref a10])), (a1, .inl (T 0, 10, .inl af1)), (a2, .inl (T 0, 10, .inl af2))]) rfl dX0_layFrom_35 (fun H locs V => ?_)
        refine lv_aload_n hx hb dX0_layFrom_38 rfl (lv_at hl 0 rfl) ?_
        refine g_get hC V (ci := 0) uwX0 0 rfl rfl 2 (by decide) w_215 rfl rfl dX0_layFrom_39 ?_
        refine lv_iconst (v := (nI 0)) hx hb dX0_layFrom_42 (by decide +kernel) ?_
        refine lv_aload_n hx hb dX0_layFrom_43 rfl (lv_at hl 0 rfl) ?_
        refine g_get hC V (ci := 0) uwX0 0 rfl rfl 1 (by decide) w_213 rfl rfl dX0_layFrom_44 ?_
        refine lv_iconst (v := (nI 0)) hx hb dX0_layFrom_47 (by decide +kernel) ?_
        refine lv_bipush (v := (nI 7)) hx hb dX0_layFrom_48 (by decide +kernel) ?_
        refine g_copyi hC V hl.1 w_808 w_672 w_671 w_17 2 1 rfl rfl (by decide +kernel) (by decide +kernel) (Nat.le_of_ble_eq_true rfl) (Nat.le_of_ble_eq_true rfl) (Nat.le_of_ble_eq_true rfl) dX0_layFrom_50 (fun g_13 H locs V => ?_)
        have V : gW D T A s [(y0, .inr (0, [.int sum, .ref y1, .ref y2])), (y1, .inl (T 0, 7, .inl g_13)), (y2, .inl (T 0, 7, .inl yt)), (a0, .inr (5, [.int (nI an), .int am, .int al, .int ao, .int au, .ref a1, .ref a2, .ref a3, .ref a4, .ref a5, .ref a6, .ref a7, .ref a8, .ref a9, .ref a10])), (a1, .inl (T 0, 10, .inl af1)), (a2, .inl (T 0, 10, .inl af2))] H locs := V
        exact g_vret (Qr := (q_y_lay1 T y0 a0 tk sum ys y1 y2 yb yt an am al ao au a1 a2 a3 a4 a5 a6 a7 a8 a9 a10 af1 af2)) hC V ⟨(Nat.le_of_ble_eq_true rfl), (Nat.le_of_ble_eq_true rfl)⟩ ⟨sum, g_13, yt, rfl, rfl, (by first | assumption | omega)⟩ dX0_layFrom_53
      · skip
        have c_12 := b_nle (by omega) (by omega) c_12
        refine lv_iload_n hx hb dX0_layFrom_26 rfl (lv_at hl 2 rfl) ?_
        refine lv_bipush (v := (nI 7)) hx hb dX0_layFrom_27 (by decide +kernel) ?_
        refine lv_icmp_lt (tgt := 54) hx hb dX0_layFrom_29 (by decide) (fun _ => ?_) (fun c => absurd (show (nI 1) < (nI 7) by first | rfl | decide +kernel) c)
        refine lv_iconst (v := (nI 0)) hx hb dX0_layFrom_54 (by decide +kernel) ?_
        refine lv_istore (lv' := [(5, .int (nI 0)), (0, .ref y0), (1, .ref a0), (2, .int (nI 1)), (3, .int tk), (4, .int sum)]) hx hb dX0_layFrom_55 hl (by decide) rfl (fun ls hl => ?_)
        have L_14 : ∀ (fu : Nat) (k57 : Nat) (bv : Int32) (ga : Nat → Int32) (gb : Nat → Int32), k57 ≤ an → (∀ i, i < 7 → (gb i = -1 ∨ bd (gb i) 7)) → an - k57 < fu → ∀ (H : Heap) (locs : List Loc) (ls : Array Slot), gW D T A s [(y0, .inr (0, [.int bv, .ref y1, .ref y2])), (y1, .inl (T 0, 7, .inl ga)), (y2, .inl (T 0, 7, .inl gb)), (a0, .inr (5, [.int (nI an), .int am, .int al, .int ao, .int au, .ref a1, .ref a2, .ref a3, .ref a4, .ref a5, .ref a6, .ref a7, .ref a8, .ref a9, .ref a10])), (a1, .inl (T 0, 10, .inl af1)), (a2, .inl (T 0, 10, .inl af2))] H locs → lv_has ls 7 [(5, .int (nI k57)), (0, .ref y0), (1, .ref a0), (2, .int (nI 1)), (3, .int tk), (4, .int sum)] → W p l e (rmD 8 0 0) s m args below meth c H locs 0 0 (MQ below (gQ D A (q_y_lay1 T y0 a0 tk sum ys y1 y2 yb yt an am al ao au a1 a2 a3 a4 a5 a6 a7 a8 a9 a10 af1 af2)) args s 0 0 A) (F0 m 57 ls []) := by
          intro fu_57
          induction fu_57 with
          | zero => intro k57 bv ga gb hk57 hgb hmu; exact absurd hmu (Nat.not_lt_zero _)
          | succ fu_57 ih_57 =>
            intro k57 bv ga gb hk57 hgb hmu_57 H locs ls V hl
            refine lv_iload hx hb dX0_layFrom_57 (lv_at hl 0 rfl) ?_
            refine lv_aload_n hx hb dX0_layFrom_59 rfl (lv_at hl 2 rfl) ?_
            refine g_get hC V (ci := 5) uwX5 3 rfl rfl 0 (by decide) w_35 rfl rfl dX0_layFrom_60 ?_
            refine lv_icmp_ge (tgt := 145) hx hb dX0_layFrom_63 (by decide) (fun c_15 => ?_) (fun c_15 => ?_)
            · skip
              have c_15 := b_le (by omega) (by omega) c_15
              exact g_vret (Qr := (q_y_lay1 T y0 a0 tk sum ys y1 y2 yb yt an am al ao au a1 a2 a3 a4 a5 a6 a7 a8 a9 a10 af1 af2)) hC V ⟨(Nat.le_of_ble_eq_true rfl), (Nat.le_of_ble_eq_true rfl)⟩ ⟨bv, ga, gb, rfl, rfl, (by first | assumption | omega)⟩ dX0_layFrom_145
            · skip
              have c_15 := b_nle (by omega) (by omega) c_15
              refine lv_iload_n hx hb dX0_layFrom_66 rfl (lv_at hl 4 rfl) ?_
              refine lv_iload hx hb dX0_layFrom_67 (lv_at hl 0 rfl) ?_
              refine g_callSNU (nA := 2) (host := RX7) hC V hl.1 (c_isIn l D T tk (nI k57)) w_472 (List.mem_of_getElem? (i := 7) rfl) w_2 w_471 (by decide +kernel) rfl ⟨(Nat.le_of_ble_eq_true rfl), (Nat.le_of_ble_eq_true rfl)⟩ [] rfl rfl (Nat.le_of_ble_eq_true rfl) dX0_layFrom_69 ⟨(Nat.le_of_ble_eq_true rfl), (Nat.le_of_ble_eq_true rfl)⟩ rfl (fun r w1 H locs hQ V => ?_)
              rcases hQ with ⟨rfl, rfl⟩ | ⟨rfl, rfl⟩
              · have V : gW D T A s [(y0, .inr (0, [.int bv, .ref y1, .ref y2])), (y1, .inl (T 0, 7, .inl ga)), (y2, .inl (T 0, 7, .inl gb)), (a0, .inr (5, [.int (nI an), .int am, .int al, .int ao, .int au, .ref a1, .ref a2, .ref a3, .ref a4, .ref a5, .ref a6, .ref a7, .ref a8, .ref a9, .ref a10])), (a1, .inl (T 0, 10, .inl af1)), (a2, .inl (T 0, 10, .inl af2))] H locs := V _ [] rfl rfl rfl (by decide +kernel) rfl
                show W p l e _ s m args below meth c H locs _ _ _ (F0 m 72 ls [.int (nI 1)])
                refine lv_if_ne (tgt := 139) hx hb dX0_layFrom_72 (by decide) (fun _ => ?_) (fun c => absurd (show (nI 1) = 0 from c) (by decide +kernel))
                refine lv_iinc (v := (nI (k57 + 1))) (lv' := [(5, .int (nI (k57 + 1))), (0, .ref y0), (1, .ref a0), (2, .int (nI 1)), (3, .int tk), (4, .int sum)]) hx hb dX0_layFrom_139 hl (k := 0) rfl (nI_1 _) (by decide) rfl (fun ls hl => ?_)
                refine lv_goto (tgt := 57) hx hb dX0_layFrom_142 (by decide) ?_
                exact ih_57 (k57 + 1) bv ga gb (by omega) (by assumption) (by omega) _ _ _ V (lv_sub hl [0, 1, 2, 3, 4, 5] rfl)
              · have V : gW D T A s [(y0, .inr (0, [.int bv, .ref y1, .ref y2])), (y1, .inl (T 0, 7, .inl ga)), (y2, .inl (T 0, 7, .inl gb)), (a0, .inr (5, [.int (nI an), .int am, .int al, .int ao, .int au, .ref a1, .ref a2, .ref a3, .ref a4, .ref a5, .ref a6, .ref a7, .ref a8, .ref a9, .ref a10])), (a1, .inl (T 0, 10, .inl af1)), (a2, .inl (T 0, 10, .inl af2))] H locs := V _ [] rfl rfl rfl (by decide +kernel) rfl
                show W p l e _ s m args below meth c H locs _ _ _ (F0 m 72 ls [.int (nI 0)])
                refine lv_if_ne (tgt := 139) hx hb dX0_layFrom_72 (by decide) (fun c => absurd (show (nI 0) = 0 by decide +kernel) c) (fun _ => ?_)
                refine lv_aload_n hx hb dX0_layFrom_75 rfl (lv_at hl 1 rfl) ?_
                refine lv_aload_n hx hb dX0_layFrom_76 rfl (lv_at hl 2 rfl) ?_
                refine lv_iload_n hx hb dX0_layFrom_77 rfl (lv_at hl 3 rfl) ?_
                refine lv_iload hx hb dX0_layFrom_78 (lv_at hl 0 rfl) ?_
                refine g_callVU (nA := 3) hC V hl.1 (y_closes l D T y0 a0 1 k57 bv y1 y2 gb an am al ao au a1 a2 a3 a4 a5 a6 a7 a8 a9 a10 (by first | assumption | omega) hgb (by first | assumption | omega) (by first | assumption | omega)) w_810 w_812 w_s32 w_7 w_813 (by decide +kernel) rfl ⟨(Nat.le_of_ble_eq_true rfl), (Nat.le_of_ble_eq_true rfl)⟩ 0 (ci := 0) rfl rfl [0, 2, 3] rfl rfl (Nat.le_of_ble_eq_true rfl) dX0_layFrom_80 ⟨(Nat.le_of_ble_eq_true rfl), (Nat.le_of_ble_eq_true rfl)⟩ rfl (fun r w1 H locs hQ V => ?_)
                rcases hQ with ⟨rfl, rfl⟩ | ⟨rfl, rfl⟩
                · have V : gW D T A s [(y0, .inr (0, [.int bv, .ref y1, .ref y2])), (y1, .inl (T 0, 7, .inl ga)), (y2, .inl (T 0, 7, .inl gb)), (a0, .inr (5, [.int (nI an), .int am, .int al, .int ao, .int au, .ref a1, .ref a2, .ref a3, .ref a4, .ref a5, .ref a6, .ref a7, .ref a8, .ref a9, .ref a10])), (a1, .inl (T 0, 10, .inl af1)), (a2, .inl (T 0, 10, .inl af2))] H locs := V _ [0, 1, 0] rfl rfl rfl (by decide +kernel) rfl
                  show W p l e _ s m args below meth c H locs _ _ _ (F0 m 83 ls [.int (nI 1)])
                  refine lv_if_ne (tgt := 139) hx hb dX0_layFrom_83 (by decide) (fun _ => ?_) (fun c => absurd (show (nI 1) = 0 from c) (by decide +kernel))
                  refine lv_iinc (v := (nI (k57 + 1))) (lv' := [(5, .int (nI (k57 + 1))), (0, .ref y0), (1, .ref a0), (2, .int (nI 1)), (3, .int tk), (4, .int sum)]) hx hb dX0_layFrom_139 hl (k := 0) rfl (nI_1 _) (by decide) rfl (fun ls hl => ?_)
                  refine lv_goto (tgt := 57) hx hb dX0_layFrom_142 (by decide) ?_
                  exact ih_57 (k57 + 1) bv ga gb (by omega) (by assumption) (by omega) _ _ _ V (lv_sub hl [0, 1, 2, 3, 4, 5] rfl)
                · have V : gW D T A s [(y0, .inr (0, [.int bv, .ref y1, .ref y2])), (y1, .inl (T 0, 7, .inl ga)), (y2, .inl (T 0, 7, .inl gb)), (a0, .inr (5, [.int (nI an), .int am, .int al, .int ao, .int au, .ref a1, .ref a2, .ref a3, .ref a4, .ref a5, .ref a6, .ref a7, .ref a8, .ref a9, .ref a10])), (a1, .inl (T 0, 10, .inl af1)), (a2, .inl (T 0, 10, .inl af2))] H locs := V _ [0, 1, 0] rfl rfl rfl (by decide +kernel) rfl
                  show W p l e _ s m args below meth c H locs _ _ _ (F0 m 83 ls [.int (nI 0)])
                  refine lv_if_ne (tgt := 139) hx hb dX0_layFrom_83 (by decide) (fun c => absurd (show (nI 0) = 0 by decide +kernel) c) (fun _ => ?_)
                  refine lv_aload_n hx hb dX0_layFrom_86 rfl (lv_at hl 1 rfl) ?_
                  refine g_get hC V (ci := 0) uwX0 0 rfl rfl 2 (by decide) w_215 rfl rfl dX0_layFrom_87 ?_
                  refine lv_iload_n hx hb dX0_layFrom_90 rfl (lv_at hl 3 rfl) ?_
                  refine lv_iload hx hb dX0_layFrom_91 (lv_at hl 0 rfl) ?_
                  refine g_iast hC V 2 rfl (vp_in_nI (by decide) (by decide)) (f' := (upd gb 1 (nI k57))) (by rw [nI_clamp (by decide)]) (ws' := [(y0, .inr (0, [.int bv, .ref y1, .ref y2])), (y1, .inl (T 0, 7, .inl ga)), (y2, .inl (T 0, 7, .inl (upd gb 1 (nI k57)))), (a0, .inr (5, [.int (nI an), .int am, .int al, .int ao, .int au, .ref a1, .ref a2, .ref a3, .ref a4, .ref a5, .ref a6, .ref a7, .ref a8, .ref a9, .ref a10])), (a1, .inl (T 0, 10, .inl af1)), (a2, .inl (T 0, 10, .inl af2))]) rfl dX0_layFrom_93 (fun H locs V => ?_)
                  refine lv_aload_n hx hb dX0_layFrom_94 rfl (lv_at hl 2 rfl) ?_
                  refine g_get hC V (ci := 5) uwX5 3 rfl rfl 5 (by decide) w_52 rfl rfl dX0_layFrom_95 ?_
                  refine lv_iload_n hx hb dX0_layFrom_98 rfl (lv_at hl 3 rfl) ?_
                  refine g_iald hC V 4 rfl (vp_in_nI (by decide) (by decide)) (v := (af1 1)) (congrArg _ (nI_clamp (by decide))) dX0_layFrom_99 ?_
                  refine lv_aload_n hx hb dX0_layFrom_100 rfl (lv_at hl 2 rfl) ?_
                  refine g_get hC V (ci := 5) uwX5 3 rfl rfl 6 (by decide) w_58 rfl rfl dX0_layFrom_101 ?_
                  refine lv_iload hx hb dX0_layFrom_104 (lv_at hl 0 rfl) ?_
                  refine g_iald hC V 5 rfl (vp_in_nI (by omega) (by omega)) (v := (af2 k57)) (congrArg _ (nI_clamp (by omega))) dX0_layFrom_106 ?_
                  refine lv_isub hx hb dX0_layFrom_107 ?_
                  refine va_mabs hx hb (hml.trans hl.1.symm) hown (hts _ w_814) (hts _ w_815) (hts _ w_10) (hts _ w_816) (Nat.le_of_ble_eq_true rfl) (Nat.le_of_ble_eq_true rfl) (Nat.le_of_ble_eq_true rfl) (Nat.le_of_ble_eq_true rfl) dX0_layFrom_108 ?_
                  refine lv_topi (fun x_16 ex_16 => ?_)
                  refine lv_istore (lv' := [(6, .int x_16), (5, .int (nI k57)), (0, .ref y0), (1, .ref a0), (2, .int (nI 1)), (3, .int tk), (4, .int sum)]) hx hb dX0_layFrom_111 hl (by decide) rfl (fun ls hl => ?_)
                  refine lv_aload_n hx hb dX0_layFrom_113 rfl (lv_at hl 2 rfl) ?_
                  refine lv_aload_n hx hb dX0_layFrom_114 rfl (lv_at hl 3 rfl) ?_
                  refine lv_iload_n hx hb dX0_layFrom_115 rfl (lv_at hl 4 rfl) ?_
                  refine lv_iconst (v := (nI 1)) hx hb dX0_layFrom_116 (by decide +kernel) ?_
                  refine lv_iadd hx hb dX0_layFrom_117 ?_
                  refine g_vi (y := (nI 2)) (by decide +kernel) ?_
                  refine lv_iload_n hx hb dX0_layFrom_118 rfl (lv_at hl 5 rfl) ?_
                  refine lv_iconst (v := (nI 1)) hx hb dX0_layFrom_119 (by decide +kernel) ?_
                  refine lv_iload hx hb dX0_layFrom_120 (lv_at hl 1 rfl) ?_
                  refine lv_ishl hx hb dX0_layFrom_122 ?_
                  refine lv_ior hx hb dX0_layFrom_123 ?_
                  refine lv_iload hx hb dX0_layFrom_124 (lv_at hl 6 rfl) ?_
                  refine lv_iload hx hb dX0_layFrom_126 (lv_at hl 0 rfl) ?_
                  refine lv_iadd hx hb dX0_layFrom_128 ?_
                  refine g_callV (wr := []) (nA := 4) hC V hl.1 (y_lay2 l D T y0 a0 (tk ||| ((nI 1) <<< ((nI k57) &&& 31))) (sum + x_16) bv y1 y2 ga (upd gb 1 (nI k57)) an am al ao au a1 a2 a3 a4 a5 a6 a7 a8 a9 a10 af1 af2 (by first | assumption | omega) (up_all (p := fun x => x = -1 ∨ bd x 7) hgb (fun _ => Or.inr (bd_nI (by omega))))) w_804 w_806 w_s31 w_7 w_807 (by decide +kernel) rfl ⟨(Nat.le_of_ble_eq_true rfl), (Nat.le_of_ble_eq_true rfl)⟩ 0 (ci := 0) rfl rfl [0, 1, 2, 3, 4, 5] [] rfl rfl rfl rfl (by decide) (Nat.le_of_ble_eq_true rfl) dX0_layFrom_129 ⟨(Nat.le_of_ble_eq_true rfl), (Nat.le_of_ble_eq_true rfl)⟩ rfl (fun r w1 H locs hQ V => ?_)
                  obtain ⟨bs_17, g1_18, g2_19, rfl, rfl, f_20⟩ := hQ
                  have V : gW D T A s [(y0, .inr (0, [.int bs_17, .ref y1, .ref y2])), (y1, .inl (T 0, 7, .inl g1_18)), (y2, .inl (T 0, 7, .inl g2_19)), (a0, .inr (5, [.int (nI an), .int am, .int al, .int ao, .int au, .ref a1, .ref a2, .ref a3, .ref a4, .ref a5, .ref a6, .ref a7, .ref a8, .ref a9, .ref a10])), (a1, .inl (T 0, 10, .inl af1)), (a2, .inl (T 0, 10, .inl af2))] H locs := V
                  show W p l e _ s m args below meth c H locs _ _ _ (F0 m 132 ls [])
                  have hq := up_all (p := fun x => x = -1 ∨ bd x 7) (k := 1) (x := -1) f_20 (fun _ => Or.inl rfl)
                  refine lv_aload_n hx hb dX0_layFrom_132 rfl (lv_at hl 2 rfl) ?_
                  refine g_get hC V (ci := 0) uwX0 0 rfl rfl 2 (by decide) w_215 rfl rfl dX0_layFrom_133 ?_
                  refine lv_iload_n hx hb dX0_layFrom_136 rfl (lv_at hl 4 rfl) ?_
                  refine lv_iconst (v := (-1)) hx hb dX0_layFrom_137 (by decide +kernel) ?_
                  refine g_iast hC V 2 rfl (vp_in_nI (by decide) (by decide)) (f' := (upd g2_19 1 (-1))) (by rw [nI_clamp (by decide)]) (ws' := [(y0, .inr (0, [.int bs_17, .ref y1, .ref y2])), (y1, .inl (T 0, 7, .inl g1_18)), (y2, .inl (T 0, 7, .inl (upd g2_19 1 (-1)))), (a0, .inr (5, [.int (nI an), .int am, .int al, .int ao, .int au, .ref a1, .ref a2, .ref a3, .ref a4, .ref a5, .ref a6, .ref a7, .ref a8, .ref a9, .ref a10])), (a1, .inl (T 0, 10, .inl af1)), (a2, .inl (T 0, 10, .inl af2))]) rfl dX0_layFrom_138 (fun H locs V => ?_)
                  refine lv_iinc (v := (nI (k57 + 1))) (lv' := [(5, .int (nI (k57 + 1))), (6, .int x_16), (0, .ref y0), (1, .ref a0), (2, .int (nI 1)), (3, .int tk), (4, .int sum)]) hx hb dX0_layFrom_139 hl (k := 1) rfl (nI_1 _) (by decide) rfl (fun ls hl => ?_)
                  refine lv_goto (tgt := 57) hx hb dX0_layFrom_142 (by decide) ?_
                  exact ih_57 (k57 + 1) bs_17 g1_18 (upd g2_19 1 (-1)) (by omega) (by assumption) (by omega) _ _ _ V (lv_sub hl [0, 2, 3, 4, 5, 6] rfl)
        exact L_14 _ 0 ys yb yt (by omega) h_yt (Nat.lt_succ_self _) _ _ _ V (lv_sub hl [0, 1, 2, 3, 4, 5] rfl)
    · skip
      exact g_vret (Qr := (q_y_lay1 T y0 a0 tk sum ys y1 y2 yb yt an am al ao au a1 a2 a3 a4 a5 a6 a7 a8 a9 a10 af1 af2)) hC V ⟨(Nat.le_of_ble_eq_true rfl), (Nat.le_of_ble_eq_true rfl)⟩ ⟨ys, yb, yt, rfl, rfl, (by first | assumption | omega)⟩ dX0_layFrom_17

def q_y_lay0 (T : Nat → ClassId) (y0 : Nat) (a0 : Nat) (tk : Int32) (sum : Int32) (ys : Int32) (y1 : Nat) (y2 : Nat) (yb : Nat → Int32) (yt : Nat → Int32) (an : Nat) (am : Int32) (al : Int32) (ao : Int32) (au : Int32) (a1 : Nat) (a2 : Nat) (a3 : Nat) (a4 : Nat) (a5 : Nat) (a6 : Nat) (a7 : Nat) (a8 : Nat) (a9 : Nat) (a10 : Nat) (af1 : Nat → Int32) (af2 : Nat → Int32) : Option Value → va_W → Prop := fun rr ww => (∃ (bs : Int32) (g1 : Nat → Int32) (g2 : Nat → Int32), rr = none ∧ ww = [(y0, .inr (0, [.int bs, .ref y1, .ref y2])), (y1, .inl (T 0, 7, .inl g1)), (y2, .inl (T 0, 7, .inl g2)), (a0, .inr (5, [.int (nI an), .int am, .int al, .int ao, .int au, .ref a1, .ref a2, .ref a3, .ref a4, .ref a5, .ref a6, .ref a7, .ref a8, .ref a9, .ref a10])), (a1, .inl (T 0, 10, .inl af1)), (a2, .inl (T 0, 10, .inl af2))] ∧ (∀ i, i < 7 → (g2 i = -1 ∨ bd (g2 i) 7)))
set_option maxHeartbeats 4000000 in
set_option maxRecDepth 100000 in
theorem y_lay0 (l : Launch) (D : va_G) (T : Nat → ClassId) (y0 : Nat) (a0 : Nat) (tk : Int32) (sum : Int32) (ys : Int32) (y1 : Nat) (y2 : Nat) (yb : Nat → Int32) (yt : Nat → Int32) (an : Nat) (am : Int32) (al : Int32) (ao : Int32) (au : Int32) (a1 : Nat) (a2 : Nat) (a3 : Nat) (a4 : Nat) (a5 : Nat) (a6 : Nat) (a7 : Nat) (a8 : Nat) (a9 : Nat) (a10 : Nat) (af1 : Nat → Int32) (af2 : Nat → Int32) (h_n : an ≤ 7) (h_yt : ∀ i, i < 7 → (yt i = -1 ∨ bd (yt i) 7)) : Ct l yX0_layFrom cX0_layFrom 7 none 9 0 0 D T [.ref y0, .ref a0, .int (nI 0), .int tk, .int sum] [(y0, .inr (0, [.int ys, .ref y1, .ref y2])), (y1, .inl (T 0, 7, .inl yb)), (y2, .inl (T 0, 7, .inl yt)), (a0, .inr (5, [.int (nI an), .int am, .int al, .int ao, .int au, .ref a1, .ref a2, .ref a3, .ref a4, .ref a5, .ref a6, .ref a7, .ref a8, .ref a9, .ref a10])), (a1, .inl (T 0, 10, .inl af1)), (a2, .inl (T 0, 10, .inl af2))] (q_y_lay0 T y0 a0 tk sum ys y1 y2 yb yt an am al ao au a1 a2 a3 a4 a5 a6 a7 a8 a9 a10 af1 af2) := by
  refine Ct.of (cc := cX0_layFrom) (maxL := 7) (ret := none) (by decide) (Nat.le_of_ble_eq_true rfl) ?_
  intro p e s m args below meth c A ls hC hnm V hl
  obtain ⟨hx, hb, hr, hml, hown, hts, hlocks⟩ := id hC
  generalize hH : s.heap = H at V ⊢
  clear hH
  have hl : lv_has ls 7 [(0, .ref y0), (1, .ref a0), (2, .int (nI 0)), (3, .int tk), (4, .int sum)] := hl
  generalize hlo : ([] : List Loc) = locs at V ⊢
  clear hlo
  refine lv_aload_n hx hb dX0_layFrom_0 rfl (lv_at hl 0 rfl) ?_
  refine g_get hC V (ci := 0) uwX0 0 rfl rfl 0 (by decide) w_211 rfl rfl dX0_layFrom_1 ?_
  refine lv_iconst (v := (-1)) hx hb dX0_layFrom_4 (by decide +kernel) ?_
  refine lv_icmp_eq (tgt := 18) hx hb dX0_layFrom_5 (by decide) (fun c_1 => ?_) (fun c_1 => ?_)
  · skip
    refine lv_iload_n hx hb dX0_layFrom_18 rfl (lv_at hl 2 rfl) ?_
    refine lv_aload_n hx hb dX0_layFrom_19 rfl (lv_at hl 1 rfl) ?_
    refine g_get hC V (ci := 5) uwX5 3 rfl rfl 0 (by decide) w_35 rfl rfl dX0_layFrom_20 ?_
    refine lv_icmp_ge (tgt := 32) hx hb dX0_layFrom_23 (by decide) (fun c_2 => ?_) (fun c_2 => ?_)
    · skip
      have c_2 := b_le (by omega) (by omega) c_2
      refine lv_aload_n hx hb dX0_layFrom_32 rfl (lv_at hl 0 rfl) ?_
      refine lv_iload hx hb dX0_layFrom_33 (lv_at hl 4 rfl) ?_
      refine g_put hC V (ci := 0) uwX0 tyX0 tyX0_ok nmX0 0 rfl rfl 0 (by decide) w_211 rfl rfl rfl rfl (Nat.le_of_ble_eq_true rfl) (ws' := [(y0, .inr (0, [.int sum, .ref y1, .ref y2])), (y1, .inl (T 0, 7, .inl yb)), (y2, .inl (T 0, 7, .inl yt)), (a0, .inr (5, [.int (nI an), .int am, .int al, .int ao, .int au, .ref a1, .ref a2, .ref a3, .ref a4, .ref a5, .ref a6, .ref a7, .ref a8, .ref a9, .ref a10])), (a1, .inl (T 0, 10, .inl af1)), (a2, .inl (T 0, 10, .inl af2))]) rfl dX0_layFrom_35 (fun H locs V => ?_)
      refine lv_aload_n hx hb dX0_layFrom_38 rfl (lv_at hl 0 rfl) ?_
      refine g_get hC V (ci := 0) uwX0 0 rfl rfl 2 (by decide) w_215 rfl rfl dX0_layFrom_39 ?_
      refine lv_iconst (v := (nI 0)) hx hb dX0_layFrom_42 (by decide +kernel) ?_
      refine lv_aload_n hx hb dX0_layFrom_43 rfl (lv_at hl 0 rfl) ?_
      refine g_get hC V (ci := 0) uwX0 0 rfl rfl 1 (by decide) w_213 rfl rfl dX0_layFrom_44 ?_
      refine lv_iconst (v := (nI 0)) hx hb dX0_layFrom_47 (by decide +kernel) ?_
      refine lv_bipush (v := (nI 7)) hx hb dX0_layFrom_48 (by decide +kernel) ?_
      refine g_copyi hC V hl.1 w_808 w_672 w_671 w_17 2 1 rfl rfl (by decide +kernel) (by decide +kernel) (Nat.le_of_ble_eq_true rfl) (Nat.le_of_ble_eq_true rfl) (Nat.le_of_ble_eq_true rfl) dX0_layFrom_50 (fun g_3 H locs V => ?_)
      have V : gW D T A s [(y0, .inr (0, [.int sum, .ref y1, .ref y2])), (y1, .inl (T 0, 7, .inl g_3)), (y2, .inl (T 0, 7, .inl yt)), (a0, .inr (5, [.int (nI an), .int am, .int al, .int ao, .int au, .ref a1, .ref a2, .ref a3, .ref a4, .ref a5, .ref a6, .ref a7, .ref a8, .ref a9, .ref a10])), (a1, .inl (T 0, 10, .inl af1)), (a2, .inl (T 0, 10, .inl af2))] H locs := V
      exact g_vret (Qr := (q_y_lay0 T y0 a0 tk sum ys y1 y2 yb yt an am al ao au a1 a2 a3 a4 a5 a6 a7 a8 a9 a10 af1 af2)) hC V ⟨(Nat.le_of_ble_eq_true rfl), (Nat.le_of_ble_eq_true rfl)⟩ ⟨sum, g_3, yt, rfl, rfl, (by first | assumption | omega)⟩ dX0_layFrom_53
    · skip
      have c_2 := b_nle (by omega) (by omega) c_2
      refine lv_iload_n hx hb dX0_layFrom_26 rfl (lv_at hl 2 rfl) ?_
      refine lv_bipush (v := (nI 7)) hx hb dX0_layFrom_27 (by decide +kernel) ?_
      refine lv_icmp_lt (tgt := 54) hx hb dX0_layFrom_29 (by decide) (fun _ => ?_) (fun c => absurd (show (nI 0) < (nI 7) by first | rfl | decide +kernel) c)
      refine lv_iconst (v := (nI 0)) hx hb dX0_layFrom_54 (by decide +kernel) ?_
      refine lv_istore (lv' := [(5, .int (nI 0)), (0, .ref y0), (1, .ref a0), (2, .int (nI 0)), (3, .int tk), (4, .int sum)]) hx hb dX0_layFrom_55 hl (by decide) rfl (fun ls hl => ?_)
      have L_4 : ∀ (fu : Nat) (k57 : Nat) (bv : Int32) (ga : Nat → Int32) (gb : Nat → Int32), k57 ≤ an → (∀ i, i < 7 → (gb i = -1 ∨ bd (gb i) 7)) → an - k57 < fu → ∀ (H : Heap) (locs : List Loc) (ls : Array Slot), gW D T A s [(y0, .inr (0, [.int bv, .ref y1, .ref y2])), (y1, .inl (T 0, 7, .inl ga)), (y2, .inl (T 0, 7, .inl gb)), (a0, .inr (5, [.int (nI an), .int am, .int al, .int ao, .int au, .ref a1, .ref a2, .ref a3, .ref a4, .ref a5, .ref a6, .ref a7, .ref a8, .ref a9, .ref a10])), (a1, .inl (T 0, 10, .inl af1)), (a2, .inl (T 0, 10, .inl af2))] H locs → lv_has ls 7 [(5, .int (nI k57)), (0, .ref y0), (1, .ref a0), (2, .int (nI 0)), (3, .int tk), (4, .int sum)] → W p l e (rmD 9 0 0) s m args below meth c H locs 0 0 (MQ below (gQ D A (q_y_lay0 T y0 a0 tk sum ys y1 y2 yb yt an am al ao au a1 a2 a3 a4 a5 a6 a7 a8 a9 a10 af1 af2)) args s 0 0 A) (F0 m 57 ls []) := by
        intro fu_57
        induction fu_57 with
        | zero => intro k57 bv ga gb hk57 hgb hmu; exact absurd hmu (Nat.not_lt_zero _)
        | succ fu_57 ih_57 =>
          intro k57 bv ga gb hk57 hgb hmu_57 H locs ls V hl
          refine lv_iload hx hb dX0_layFrom_57 (lv_at hl 0 rfl) ?_
          refine lv_aload_n hx hb dX0_layFrom_59 rfl (lv_at hl 2 rfl) ?_
          refine g_get hC V (ci := 5) uwX5 3 rfl rfl 0 (by decide) w_35 rfl rfl dX0_layFrom_60 ?_
          refine lv_icmp_ge (tgt := 145) hx hb dX0_layFrom_63 (by decide) (fun c_5 => ?_) (fun c_5 => ?_)
          · skip
            have c_5 := b_le (by omega) (by omega) c_5
            exact g_vret (Qr := (q_y_lay0 T y0 a0 tk sum ys y1 y2 yb yt an am al ao au a1 a2 a3 a4 a5 a6 a7 a8 a9 a10 af1 af2)) hC V ⟨(Nat.le_of_ble_eq_true rfl), (Nat.le_of_ble_eq_true rfl)⟩ ⟨bv, ga, gb, rfl, rfl, (by first | assumption | omega)⟩ dX0_layFrom_145
          · skip
            have c_5 := b_nle (by omega) (by omega) c_5
            refine lv_iload_n hx hb dX0_layFrom_66 rfl (lv_at hl 4 rfl) ?_
            refine lv_iload hx hb dX0_layFrom_67 (lv_at hl 0 rfl) ?_
            refine g_callSNU (nA := 2) (host := RX7) hC V hl.1 (c_isIn l D T tk (nI k57)) w_472 (List.mem_of_getElem? (i := 7) rfl) w_2 w_471 (by decide +kernel) rfl ⟨(Nat.le_of_ble_eq_true rfl), (Nat.le_of_ble_eq_true rfl)⟩ [] rfl rfl (Nat.le_of_ble_eq_true rfl) dX0_layFrom_69 ⟨(Nat.le_of_ble_eq_true rfl), (Nat.le_of_ble_eq_true rfl)⟩ rfl (fun r w1 H locs hQ V => ?_)
            rcases hQ with ⟨rfl, rfl⟩ | ⟨rfl, rfl⟩
            · have V : gW D T A s [(y0, .inr (0, [.int bv, .ref y1, .ref y2])), (y1, .inl (T 0, 7, .inl ga)), (y2, .inl (T 0, 7, .inl gb)), (a0, .inr (5, [.int (nI an), .int am, .int al, .int ao, .int au, .ref a1, .ref a2, .ref a3, .ref a4, .ref a5, .ref a6, .ref a7, .ref a8, .ref a9, .ref a10])), (a1, .inl (T 0, 10, .inl af1)), (a2, .inl (T 0, 10, .inl af2))] H locs := V _ [] rfl rfl rfl (by decide +kernel) rfl
              show W p l e _ s m args below meth c H locs _ _ _ (F0 m 72 ls [.int (nI 1)])
              refine lv_if_ne (tgt := 139) hx hb dX0_layFrom_72 (by decide) (fun _ => ?_) (fun c => absurd (show (nI 1) = 0 from c) (by decide +kernel))
              refine lv_iinc (v := (nI (k57 + 1))) (lv' := [(5, .int (nI (k57 + 1))), (0, .ref y0), (1, .ref a0), (2, .int (nI 0)), (3, .int tk), (4, .int sum)]) hx hb dX0_layFrom_139 hl (k := 0) rfl (nI_1 _) (by decide) rfl (fun ls hl => ?_)
              refine lv_goto (tgt := 57) hx hb dX0_layFrom_142 (by decide) ?_
              exact ih_57 (k57 + 1) bv ga gb (by omega) (by assumption) (by omega) _ _ _ V (lv_sub hl [0, 1, 2, 3, 4, 5] rfl)
            · have V : gW D T A s [(y0, .inr (0, [.int bv, .ref y1, .ref y2])), (y1, .inl (T 0, 7, .inl ga)), (y2, .inl (T 0, 7, .inl gb)), (a0, .inr (5, [.int (nI an), .int am, .int al, .int ao, .int au, .ref a1, .ref a2, .ref a3, .ref a4, .ref a5, .ref a6, .ref a7, .ref a8, .ref a9, .ref a10])), (a1, .inl (T 0, 10, .inl af1)), (a2, .inl (T 0, 10, .inl af2))] H locs := V _ [] rfl rfl rfl (by decide +kernel) rfl
              show W p l e _ s m args below meth c H locs _ _ _ (F0 m 72 ls [.int (nI 0)])
              refine lv_if_ne (tgt := 139) hx hb dX0_layFrom_72 (by decide) (fun c => absurd (show (nI 0) = 0 by decide +kernel) c) (fun _ => ?_)
              refine lv_aload_n hx hb dX0_layFrom_75 rfl (lv_at hl 1 rfl) ?_
              refine lv_aload_n hx hb dX0_layFrom_76 rfl (lv_at hl 2 rfl) ?_
              refine lv_iload_n hx hb dX0_layFrom_77 rfl (lv_at hl 3 rfl) ?_
              refine lv_iload hx hb dX0_layFrom_78 (lv_at hl 0 rfl) ?_
              refine g_callVU (nA := 3) hC V hl.1 (y_closes l D T y0 a0 0 k57 bv y1 y2 gb an am al ao au a1 a2 a3 a4 a5 a6 a7 a8 a9 a10 (by first | assumption | omega) hgb (by first | assumption | omega) (by first | assumption | omega)) w_810 w_812 w_s32 w_7 w_813 (by decide +kernel) rfl ⟨(Nat.le_of_ble_eq_true rfl), (Nat.le_of_ble_eq_true rfl)⟩ 0 (ci := 0) rfl rfl [0, 2, 3] rfl rfl (Nat.le_of_ble_eq_true rfl) dX0_layFrom_80 ⟨(Nat.le_of_ble_eq_true rfl), (Nat.le_of_ble_eq_true rfl)⟩ rfl (fun r w1 H locs hQ V => ?_)
              rcases hQ with ⟨rfl, rfl⟩ | ⟨rfl, rfl⟩
              · have V : gW D T A s [(y0, .inr (0, [.int bv, .ref y1, .ref y2])), (y1, .inl (T 0, 7, .inl ga)), (y2, .inl (T 0, 7, .inl gb)), (a0, .inr (5, [.int (nI an), .int am, .int al, .int ao, .int au, .ref a1, .ref a2, .ref a3, .ref a4, .ref a5, .ref a6, .ref a7, .ref a8, .ref a9, .ref a10])), (a1, .inl (T 0, 10, .inl af1)), (a2, .inl (T 0, 10, .inl af2))] H locs := V _ [0, 1, 0] rfl rfl rfl (by decide +kernel) rfl
                show W p l e _ s m args below meth c H locs _ _ _ (F0 m 83 ls [.int (nI 1)])
                refine lv_if_ne (tgt := 139) hx hb dX0_layFrom_83 (by decide) (fun _ => ?_) (fun c => absurd (show (nI 1) = 0 from c) (by decide +kernel))
                refine lv_iinc (v := (nI (k57 + 1))) (lv' := [(5, .int (nI (k57 + 1))), (0, .ref y0), (1, .ref a0), (2, .int (nI 0)), (3, .int tk), (4, .int sum)]) hx hb dX0_layFrom_139 hl (k := 0) rfl (nI_1 _) (by decide) rfl (fun ls hl => ?_)
                refine lv_goto (tgt := 57) hx hb dX0_layFrom_142 (by decide) ?_
                exact ih_57 (k57 + 1) bv ga gb (by omega) (by assumption) (by omega) _ _ _ V (lv_sub hl [0, 1, 2, 3, 4, 5] rfl)
              · have V : gW D T A s [(y0, .inr (0, [.int bv, .ref y1, .ref y2])), (y1, .inl (T 0, 7, .inl ga)), (y2, .inl (T 0, 7, .inl gb)), (a0, .inr (5, [.int (nI an), .int am, .int al, .int ao, .int au, .ref a1, .ref a2, .ref a3, .ref a4, .ref a5, .ref a6, .ref a7, .ref a8, .ref a9, .ref a10])), (a1, .inl (T 0, 10, .inl af1)), (a2, .inl (T 0, 10, .inl af2))] H locs := V _ [0, 1, 0] rfl rfl rfl (by decide +kernel) rfl
                show W p l e _ s m args below meth c H locs _ _ _ (F0 m 83 ls [.int (nI 0)])
                refine lv_if_ne (tgt := 139) hx hb dX0_layFrom_83 (by decide) (fun c => absurd (show (nI 0) = 0 by decide +kernel) c) (fun _ => ?_)
                refine lv_aload_n hx hb dX0_layFrom_86 rfl (lv_at hl 1 rfl) ?_
                refine g_get hC V (ci := 0) uwX0 0 rfl rfl 2 (by decide) w_215 rfl rfl dX0_layFrom_87 ?_
                refine lv_iload_n hx hb dX0_layFrom_90 rfl (lv_at hl 3 rfl) ?_
                refine lv_iload hx hb dX0_layFrom_91 (lv_at hl 0 rfl) ?_
                refine g_iast hC V 2 rfl (vp_in_nI (by decide) (by decide)) (f' := (upd gb 0 (nI k57))) (by rw [nI_clamp (by decide)]) (ws' := [(y0, .inr (0, [.int bv, .ref y1, .ref y2])), (y1, .inl (T 0, 7, .inl ga)), (y2, .inl (T 0, 7, .inl (upd gb 0 (nI k57)))), (a0, .inr (5, [.int (nI an), .int am, .int al, .int ao, .int au, .ref a1, .ref a2, .ref a3, .ref a4, .ref a5, .ref a6, .ref a7, .ref a8, .ref a9, .ref a10])), (a1, .inl (T 0, 10, .inl af1)), (a2, .inl (T 0, 10, .inl af2))]) rfl dX0_layFrom_93 (fun H locs V => ?_)
                refine lv_aload_n hx hb dX0_layFrom_94 rfl (lv_at hl 2 rfl) ?_
                refine g_get hC V (ci := 5) uwX5 3 rfl rfl 5 (by decide) w_52 rfl rfl dX0_layFrom_95 ?_
                refine lv_iload_n hx hb dX0_layFrom_98 rfl (lv_at hl 3 rfl) ?_
                refine g_iald hC V 4 rfl (vp_in_nI (by decide) (by decide)) (v := (af1 0)) (congrArg _ (nI_clamp (by decide))) dX0_layFrom_99 ?_
                refine lv_aload_n hx hb dX0_layFrom_100 rfl (lv_at hl 2 rfl) ?_
                refine g_get hC V (ci := 5) uwX5 3 rfl rfl 6 (by decide) w_58 rfl rfl dX0_layFrom_101 ?_
                refine lv_iload hx hb dX0_layFrom_104 (lv_at hl 0 rfl) ?_
                refine g_iald hC V 5 rfl (vp_in_nI (by omega) (by omega)) (v := (af2 k57)) (congrArg _ (nI_clamp (by omega))) dX0_layFrom_106 ?_
                refine lv_isub hx hb dX0_layFrom_107 ?_
                refine va_mabs hx hb (hml.trans hl.1.symm) hown (hts _ w_814) (hts _ w_815) (hts _ w_10) (hts _ w_816) (Nat.le_of_ble_eq_true rfl) (Nat.le_of_ble_eq_true rfl) (Nat.le_of_ble_eq_true rfl) (Nat.le_of_ble_eq_true rfl) dX0_layFrom_108 ?_
                refine lv_topi (fun x_6 ex_6 => ?_)
                refine lv_istore (lv' := [(6, .int x_6), (5, .int (nI k57)), (0, .ref y0), (1, .ref a0), (2, .int (nI 0)), (3, .int tk), (4, .int sum)]) hx hb dX0_layFrom_111 hl (by decide) rfl (fun ls hl => ?_)
                refine lv_aload_n hx hb dX0_layFrom_113 rfl (lv_at hl 2 rfl) ?_
                refine lv_aload_n hx hb dX0_layFrom_114 rfl (lv_at hl 3 rfl) ?_
                refine lv_iload_n hx hb dX0_layFrom_115 rfl (lv_at hl 4 rfl) ?_
                refine lv_iconst (v := (nI 1)) hx hb dX0_layFrom_116 (by decide +kernel) ?_
                refine lv_iadd hx hb dX0_layFrom_117 ?_
                refine g_vi (y := (nI 1)) (by decide +kernel) ?_
                refine lv_iload_n hx hb dX0_layFrom_118 rfl (lv_at hl 5 rfl) ?_
                refine lv_iconst (v := (nI 1)) hx hb dX0_layFrom_119 (by decide +kernel) ?_
                refine lv_iload hx hb dX0_layFrom_120 (lv_at hl 1 rfl) ?_
                refine lv_ishl hx hb dX0_layFrom_122 ?_
                refine lv_ior hx hb dX0_layFrom_123 ?_
                refine lv_iload hx hb dX0_layFrom_124 (lv_at hl 6 rfl) ?_
                refine lv_iload hx hb dX0_layFrom_126 (lv_at hl 0 rfl) ?_
                refine lv_iadd hx hb dX0_layFrom_128 ?_
                refine g_callV (wr := []) (nA := 4) hC V hl.1 (y_lay1 l D T y0 a0 (tk ||| ((nI 1) <<< ((nI k57) &&& 31))) (sum + x_6) bv y1 y2 ga (upd gb 0 (nI k57)) an am al ao au a1 a2 a3 a4 a5 a6 a7 a8 a9 a10 af1 af2 (by first | assumption | omega) (up_all (p := fun x => x = -1 ∨ bd x 7) hgb (fun _ => Or.inr (bd_nI (by omega))))) w_804 w_806 w_s31 w_7 w_807 (by decide +kernel) rfl ⟨(Nat.le_of_ble_eq_true rfl), (Nat.le_of_ble_eq_true rfl)⟩ 0 (ci := 0) rfl rfl [0, 1, 2, 3, 4, 5] [] rfl rfl rfl rfl (by decide) (Nat.le_of_ble_eq_true rfl) dX0_layFrom_129 ⟨(Nat.le_of_ble_eq_true rfl), (Nat.le_of_ble_eq_true rfl)⟩ rfl (fun r w1 H locs hQ V => ?_)
                obtain ⟨bs_7, g1_8, g2_9, rfl, rfl, f_10⟩ := hQ
                have V : gW D T A s [(y0, .inr (0, [.int bs_7, .ref y1, .ref y2])), (y1, .inl (T 0, 7, .inl g1_8)), (y2, .inl (T 0, 7, .inl g2_9)), (a0, .inr (5, [.int (nI an), .int am, .int al, .int ao, .int au, .ref a1, .ref a2, .ref a3, .ref a4, .ref a5, .ref a6, .ref a7, .ref a8, .ref a9, .ref a10])), (a1, .inl (T 0, 10, .inl af1)), (a2, .inl (T 0, 10, .inl af2))] H locs := V
                show W p l e _ s m args below meth c H locs _ _ _ (F0 m 132 ls [])
                have hq := up_all (p := fun x => x = -1 ∨ bd x 7) (k := 0) (x := -1) f_10 (fun _ => Or.inl rfl)
                refine lv_aload_n hx hb dX0_layFrom_132 rfl (lv_at hl 2 rfl) ?_
                refine g_get hC V (ci := 0) uwX0 0 rfl rfl 2 (by decide) w_215 rfl rfl dX0_layFrom_133 ?_
                refine lv_iload_n hx hb dX0_layFrom_136 rfl (lv_at hl 4 rfl) ?_
                refine lv_iconst (v := (-1)) hx hb dX0_layFrom_137 (by decide +kernel) ?_
                refine g_iast hC V 2 rfl (vp_in_nI (by decide) (by decide)) (f' := (upd g2_9 0 (-1))) (by rw [nI_clamp (by decide)]) (ws' := [(y0, .inr (0, [.int bs_7, .ref y1, .ref y2])), (y1, .inl (T 0, 7, .inl g1_8)), (y2, .inl (T 0, 7, .inl (upd g2_9 0 (-1)))), (a0, .inr (5, [.int (nI an), .int am, .int al, .int ao, .int au, .ref a1, .ref a2, .ref a3, .ref a4, .ref a5, .ref a6, .ref a7, .ref a8, .ref a9, .ref a10])), (a1, .inl (T 0, 10, .inl af1)), (a2, .inl (T 0, 10, .inl af2))]) rfl dX0_layFrom_138 (fun H locs V => ?_)
                refine lv_iinc (v := (nI (k57 + 1))) (lv' := [(5, .int (nI (k57 + 1))), (6, .int x_6), (0, .ref y0), (1, .ref a0), (2, .int (nI 0)), (3, .int tk), (4, .int sum)]) hx hb dX0_layFrom_139 hl (k := 1) rfl (nI_1 _) (by decide) rfl (fun ls hl => ?_)
                refine lv_goto (tgt := 57) hx hb dX0_layFrom_142 (by decide) ?_
                exact ih_57 (k57 + 1) bs_7 g1_8 (upd g2_9 0 (-1)) (by omega) (by assumption) (by omega) _ _ _ V (lv_sub hl [0, 2, 3, 4, 5, 6] rfl)
      exact L_4 _ 0 ys yb yt (by omega) h_yt (Nat.lt_succ_self _) _ _ _ V (lv_sub hl [0, 1, 2, 3, 4, 5] rfl)
  · skip
    refine lv_iload hx hb dX0_layFrom_8 (lv_at hl 4 rfl) ?_
    refine lv_aload_n hx hb dX0_layFrom_10 rfl (lv_at hl 0 rfl) ?_
    refine g_get hC V (ci := 0) uwX0 0 rfl rfl 0 (by decide) w_211 rfl rfl dX0_layFrom_11 ?_
    refine lv_icmp_lt (tgt := 18) hx hb dX0_layFrom_14 (by decide) (fun c_11 => ?_) (fun c_11 => ?_)
    · skip
      refine lv_iload_n hx hb dX0_layFrom_18 rfl (lv_at hl 2 rfl) ?_
      refine lv_aload_n hx hb dX0_layFrom_19 rfl (lv_at hl 1 rfl) ?_
      refine g_get hC V (ci := 5) uwX5 3 rfl rfl 0 (by decide) w_35 rfl rfl dX0_layFrom_20 ?_
      refine lv_icmp_ge (tgt := 32) hx hb dX0_layFrom_23 (by decide) (fun c_12 => ?_) (fun c_12 => ?_)
      · skip
        have c_12 := b_le (by omega) (by omega) c_12
        refine lv_aload_n hx hb dX0_layFrom_32 rfl (lv_at hl 0 rfl) ?_
        refine lv_iload hx hb dX0_layFrom_33 (lv_at hl 4 rfl) ?_
        refine g_put hC V (ci := 0) uwX0 tyX0 tyX0_ok nmX0 0 rfl rfl 0 (by decide) w_211 rfl rfl rfl rfl (Nat.le_of_ble_eq_true rfl) (ws' := [(y0, .inr (0, [.int sum, .ref y1, .ref y2])), (y1, .inl (T 0, 7, .inl yb)), (y2, .inl (T 0, 7, .inl yt)), (a0, .inr (5, [.int (nI an), .int am, .int al, .int ao, .int au, .ref a1, .ref a2, .ref a3, .ref a4, .ref a5, .ref a6, .ref a7, .ref a8, .ref a9, .ref a10])), (a1, .inl (T 0, 10, .inl af1)), (a2, .inl (T 0, 10, .inl af2))]) rfl dX0_layFrom_35 (fun H locs V => ?_)
        refine lv_aload_n hx hb dX0_layFrom_38 rfl (lv_at hl 0 rfl) ?_
        refine g_get hC V (ci := 0) uwX0 0 rfl rfl 2 (by decide) w_215 rfl rfl dX0_layFrom_39 ?_
        refine lv_iconst (v := (nI 0)) hx hb dX0_layFrom_42 (by decide +kernel) ?_
        refine lv_aload_n hx hb dX0_layFrom_43 rfl (lv_at hl 0 rfl) ?_
        refine g_get hC V (ci := 0) uwX0 0 rfl rfl 1 (by decide) w_213 rfl rfl dX0_layFrom_44 ?_
        refine lv_iconst (v := (nI 0)) hx hb dX0_layFrom_47 (by decide +kernel) ?_
        refine lv_bipush (v := (nI 7)) hx hb dX0_layFrom_48 (by decide +kernel) ?_
        refine g_copyi hC V hl.1 w_808 w_672 w_671 w_17 2 1 rfl rfl (by decide +kernel) (by decide +kernel) (Nat.le_of_ble_eq_true rfl) (Nat.le_of_ble_eq_true rfl) (Nat.le_of_ble_eq_true rfl) dX0_layFrom_50 (fun g_13 H locs V => ?_)
        have V : gW D T A s [(y0, .inr (0, [.int sum, .ref y1, .ref y2])), (y1, .inl (T 0, 7, .inl g_13)), (y2, .inl (T 0, 7, .inl yt)), (a0, .inr (5, [.int (nI an), .int am, .int al, .int ao, .int au, .ref a1, .ref a2, .ref a3, .ref a4, .ref a5, .ref a6, .ref a7, .ref a8, .ref a9, .ref a10])), (a1, .inl (T 0, 10, .inl af1)), (a2, .inl (T 0, 10, .inl af2))] H locs := V
        exact g_vret (Qr := (q_y_lay0 T y0 a0 tk sum ys y1 y2 yb yt an am al ao au a1 a2 a3 a4 a5 a6 a7 a8 a9 a10 af1 af2)) hC V ⟨(Nat.le_of_ble_eq_true rfl), (Nat.le_of_ble_eq_true rfl)⟩ ⟨sum, g_13, yt, rfl, rfl, (by first | assumption | omega)⟩ dX0_layFrom_53
      · skip
        have c_12 := b_nle (by omega) (by omega) c_12
        refine lv_iload_n hx hb dX0_layFrom_26 rfl (lv_at hl 2 rfl) ?_
        refine lv_bipush (v := (nI 7)) hx hb dX0_layFrom_27 (by decide +kernel) ?_
        refine lv_icmp_lt (tgt := 54) hx hb dX0_layFrom_29 (by decide) (fun _ => ?_) (fun c => absurd (show (nI 0) < (nI 7) by first | rfl | decide +kernel) c)
        refine lv_iconst (v := (nI 0)) hx hb dX0_layFrom_54 (by decide +kernel) ?_
        refine lv_istore (lv' := [(5, .int (nI 0)), (0, .ref y0), (1, .ref a0), (2, .int (nI 0)), (3, .int tk), (4, .int sum)]) hx hb dX0_layFrom_55 hl (by decide) rfl (fun ls hl => ?_)
        have L_14 : ∀ (fu : Nat) (k57 : Nat) (bv : Int32) (ga : Nat → Int32) (gb : Nat → Int32), k57 ≤ an → (∀ i, i < 7 → (gb i = -1 ∨ bd (gb i) 7)) → an - k57 < fu → ∀ (H : Heap) (locs : List Loc) (ls : Array Slot), gW D T A s [(y0, .inr (0, [.int bv, .ref y1, .ref y2])), (y1, .inl (T 0, 7, .inl ga)), (y2, .inl (T 0, 7, .inl gb)), (a0, .inr (5, [.int (nI an), .int am, .int al, .int ao, .int au, .ref a1, .ref a2, .ref a3, .ref a4, .ref a5, .ref a6, .ref a7, .ref a8, .ref a9, .ref a10])), (a1, .inl (T 0, 10, .inl af1)), (a2, .inl (T 0, 10, .inl af2))] H locs → lv_has ls 7 [(5, .int (nI k57)), (0, .ref y0), (1, .ref a0), (2, .int (nI 0)), (3, .int tk), (4, .int sum)] → W p l e (rmD 9 0 0) s m args below meth c H locs 0 0 (MQ below (gQ D A (q_y_lay0 T y0 a0 tk sum ys y1 y2 yb yt an am al ao au a1 a2 a3 a4 a5 a6 a7 a8 a9 a10 af1 af2)) args s 0 0 A) (F0 m 57 ls []) := by
          intro fu_57
          induction fu_57 with
          | zero => intro k57 bv ga gb hk57 hgb hmu; exact absurd hmu (Nat.not_lt_zero _)
          | succ fu_57 ih_57 =>
            intro k57 bv ga gb hk57 hgb hmu_57 H locs ls V hl
            refine lv_iload hx hb dX0_layFrom_57 (lv_at hl 0 rfl) ?_
            refine lv_aload_n hx hb dX0_layFrom_59 rfl (lv_at hl 2 rfl) ?_
            refine g_get hC V (ci := 5) uwX5 3 rfl rfl 0 (by decide) w_35 rfl rfl dX0_layFrom_60 ?_
            refine lv_icmp_ge (tgt := 145) hx hb dX0_layFrom_63 (by decide) (fun c_15 => ?_) (fun c_15 => ?_)
            · skip
              have c_15 := b_le (by omega) (by omega) c_15
              exact g_vret (Qr := (q_y_lay0 T y0 a0 tk sum ys y1 y2 yb yt an am al ao au a1 a2 a3 a4 a5 a6 a7 a8 a9 a10 af1 af2)) hC V ⟨(Nat.le_of_ble_eq_true rfl), (Nat.le_of_ble_eq_true rfl)⟩ ⟨bv, ga, gb, rfl, rfl, (by first | assumption | omega)⟩ dX0_layFrom_145
            · skip
              have c_15 := b_nle (by omega) (by omega) c_15
              refine lv_iload_n hx hb dX0_layFrom_66 rfl (lv_at hl 4 rfl) ?_
              refine lv_iload hx hb dX0_layFrom_67 (lv_at hl 0 rfl) ?_
              refine g_callSNU (nA := 2) (host := RX7) hC V hl.1 (c_isIn l D T tk (nI k57)) w_472 (List.mem_of_getElem? (i := 7) rfl) w_2 w_471 (by decide +kernel) rfl ⟨(Nat.le_of_ble_eq_true rfl), (Nat.le_of_ble_eq_true rfl)⟩ [] rfl rfl (Nat.le_of_ble_eq_true rfl) dX0_layFrom_69 ⟨(Nat.le_of_ble_eq_true rfl), (Nat.le_of_ble_eq_true rfl)⟩ rfl (fun r w1 H locs hQ V => ?_)
              rcases hQ with ⟨rfl, rfl⟩ | ⟨rfl, rfl⟩
              · have V : gW D T A s [(y0, .inr (0, [.int bv, .ref y1, .ref y2])), (y1, .inl (T 0, 7, .inl ga)), (y2, .inl (T 0, 7, .inl gb)), (a0, .inr (5, [.int (nI an), .int am, .int al, .int ao, .int au, .ref a1, .ref a2, .ref a3, .ref a4, .ref a5, .ref a6, .ref a7, .ref a8, .ref a9, .ref a10])), (a1, .inl (T 0, 10, .inl af1)), (a2, .inl (T 0, 10, .inl af2))] H locs := V _ [] rfl rfl rfl (by decide +kernel) rfl
                show W p l e _ s m args below meth c H locs _ _ _ (F0 m 72 ls [.int (nI 1)])
                refine lv_if_ne (tgt := 139) hx hb dX0_layFrom_72 (by decide) (fun _ => ?_) (fun c => absurd (show (nI 1) = 0 from c) (by decide +kernel))
                refine lv_iinc (v := (nI (k57 + 1))) (lv' := [(5, .int (nI (k57 + 1))), (0, .ref y0), (1, .ref a0), (2, .int (nI 0)), (3, .int tk), (4, .int sum)]) hx hb dX0_layFrom_139 hl (k := 0) rfl (nI_1 _) (by decide) rfl (fun ls hl => ?_)
                refine lv_goto (tgt := 57) hx hb dX0_layFrom_142 (by decide) ?_
                exact ih_57 (k57 + 1) bv ga gb (by omega) (by assumption) (by omega) _ _ _ V (lv_sub hl [0, 1, 2, 3, 4, 5] rfl)
              · have V : gW D T A s [(y0, .inr (0, [.int bv, .ref y1, .ref y2])), (y1, .inl (T 0, 7, .inl ga)), (y2, .inl (T 0, 7, .inl gb)), (a0, .inr (5, [.int (nI an), .int am, .int al, .int ao, .int au, .ref a1, .ref a2, .ref a3, .ref a4, .ref a5, .ref a6, .ref a7, .ref a8, .ref a9, .ref a10])), (a1, .inl (T 0, 10, .inl af1)), (a2, .inl (T 0, 10, .inl af2))] H locs := V _ [] rfl rfl rfl (by decide +kernel) rfl
                show W p l e _ s m args below meth c H locs _ _ _ (F0 m 72 ls [.int (nI 0)])
                refine lv_if_ne (tgt := 139) hx hb dX0_layFrom_72 (by decide) (fun c => absurd (show (nI 0) = 0 by decide +kernel) c) (fun _ => ?_)
                refine lv_aload_n hx hb dX0_layFrom_75 rfl (lv_at hl 1 rfl) ?_
                refine lv_aload_n hx hb dX0_layFrom_76 rfl (lv_at hl 2 rfl) ?_
                refine lv_iload_n hx hb dX0_layFrom_77 rfl (lv_at hl 3 rfl) ?_
                refine lv_iload hx hb dX0_layFrom_78 (lv_at hl 0 rfl) ?_
                refine g_callVU (nA := 3) hC V hl.1 (y_closes l D T y0 a0 0 k57 bv y1 y2 gb an am al ao au a1 a2 a3 a4 a5 a6 a7 a8 a9 a10 (by first | assumption | omega) hgb (by first | assumption | omega) (by first | assumption | omega)) w_810 w_812 w_s32 w_7 w_813 (by decide +kernel) rfl ⟨(Nat.le_of_ble_eq_true rfl), (Nat.le_of_ble_eq_true rfl)⟩ 0 (ci := 0) rfl rfl [0, 2, 3] rfl rfl (Nat.le_of_ble_eq_true rfl) dX0_layFrom_80 ⟨(Nat.le_of_ble_eq_true rfl), (Nat.le_of_ble_eq_true rfl)⟩ rfl (fun r w1 H locs hQ V => ?_)
                rcases hQ with ⟨rfl, rfl⟩ | ⟨rfl, rfl⟩
                · have V : gW D T A s [(y0, .inr (0, [.int bv, .ref y1, .ref y2])), (y1, .inl (T 0, 7, .inl ga)), (y2, .inl (T 0, 7, .inl gb)), (a0, .inr (5, [.int (nI an), .int am, .int al, .int ao, .int au, .ref a1, .ref a2, .ref a3, .ref a4, .ref a5, .ref a6, .ref a7, .ref a8, .ref a9, .ref a10])), (a1, .inl (T 0, 10, .inl af1)), (a2, .inl (T 0, 10, .inl af2))] H locs := V _ [0, 1, 0] rfl rfl rfl (by decide +kernel) rfl
                  show W p l e _ s m args below meth c H locs _ _ _ (F0 m 83 ls [.int (nI 1)])
                  refine lv_if_ne (tgt := 139) hx hb dX0_layFrom_83 (by decide) (fun _ => ?_) (fun c => absurd (show (nI 1) = 0 from c) (by decide +kernel))
                  refine lv_iinc (v := (nI (k57 + 1))) (lv' := [(5, .int (nI (k57 + 1))), (0, .ref y0), (1, .ref a0), (2, .int (nI 0)), (3, .int tk), (4, .int sum)]) hx hb dX0_layFrom_139 hl (k := 0) rfl (nI_1 _) (by decide) rfl (fun ls hl => ?_)
                  refine lv_goto (tgt := 57) hx hb dX0_layFrom_142 (by decide) ?_
                  exact ih_57 (k57 + 1) bv ga gb (by omega) (by assumption) (by omega) _ _ _ V (lv_sub hl [0, 1, 2, 3, 4, 5] rfl)
                · have V : gW D T A s [(y0, .inr (0, [.int bv, .ref y1, .ref y2])), (y1, .inl (T 0, 7, .inl ga)), (y2, .inl (T 0, 7, .inl gb)), (a0, .inr (5, [.int (nI an), .int am, .int al, .int ao, .int au, .ref a1, .ref a2, .ref a3, .ref a4, .ref a5, .ref a6, .ref a7, .ref a8, .ref a9, .ref a10])), (a1, .inl (T 0, 10, .inl af1)), (a2, .inl (T 0, 10, .inl af2))] H locs := V _ [0, 1, 0] rfl rfl rfl (by decide +kernel) rfl
                  show W p l e _ s m args below meth c H locs _ _ _ (F0 m 83 ls [.int (nI 0)])
                  refine lv_if_ne (tgt := 139) hx hb dX0_layFrom_83 (by decide) (fun c => absurd (show (nI 0) = 0 by decide +kernel) c) (fun _ => ?_)
                  refine lv_aload_n hx hb dX0_layFrom_86 rfl (lv_at hl 1 rfl) ?_
                  refine g_get hC V (ci := 0) uwX0 0 rfl rfl 2 (by decide) w_215 rfl rfl dX0_layFrom_87 ?_
                  refine lv_iload_n hx hb dX0_layFrom_90 rfl (lv_at hl 3 rfl) ?_
                  refine lv_iload hx hb dX0_layFrom_91 (lv_at hl 0 rfl) ?_
                  refine g_iast hC V 2 rfl (vp_in_nI (by decide) (by decide)) (f' := (upd gb 0 (nI k57))) (by rw [nI_clamp (by decide)]) (ws' := [(y0, .inr (0, [.int bv, .ref y1, .ref y2])), (y1, .inl (T 0, 7, .inl ga)), (y2, .inl (T 0, 7, .inl (upd gb 0 (nI k57)))), (a0, .inr (5, [.int (nI an), .int am, .int al, .int ao, .int au, .ref a1, .ref a2, .ref a3, .ref a4, .ref a5, .ref a6, .ref a7, .ref a8, .ref a9, .ref a10])), (a1, .inl (T 0, 10, .inl af1)), (a2, .inl (T 0, 10, .inl af2))]) rfl dX0_layFrom_93 (fun H locs V => ?_)
                  refine lv_aload_n hx hb dX0_layFrom_94 rfl (lv_at hl 2 rfl) ?_
                  refine g_get hC V (ci := 5) uwX5 3 rfl rfl 5 (by decide) w_52 rfl rfl dX0_layFrom_95 ?_
                  refine lv_iload_n hx hb dX0_layFrom_98 rfl (lv_at hl 3 rfl) ?_
                  refine g_iald hC V 4 rfl (vp_in_nI (by decide) (by decide)) (v := (af1 0)) (congrArg _ (nI_clamp (by decide))) dX0_layFrom_99 ?_
                  refine lv_aload_n hx hb dX0_layFrom_100 rfl (lv_at hl 2 rfl) ?_
                  refine g_get hC V (ci := 5) uwX5 3 rfl rfl 6 (by decide) w_58 rfl rfl dX0_layFrom_101 ?_
                  refine lv_iload hx hb dX0_layFrom_104 (lv_at hl 0 rfl) ?_
                  refine g_iald hC V 5 rfl (vp_in_nI (by omega) (by omega)) (v := (af2 k57)) (congrArg _ (nI_clamp (by omega))) dX0_layFrom_106 ?_
                  refine lv_isub hx hb dX0_layFrom_107 ?_
                  refine va_mabs hx hb (hml.trans hl.1.symm) hown (hts _ w_814) (hts _ w_815) (hts _ w_10) (hts _ w_816) (Nat.le_of_ble_eq_true rfl) (Nat.le_of_ble_eq_true rfl) (Nat.le_of_ble_eq_true rfl) (Nat.le_of_ble_eq_true rfl) dX0_layFrom_108 ?_
                  refine lv_topi (fun x_16 ex_16 => ?_)
                  refine lv_istore (lv' := [(6, .int x_16), (5, .int (nI k57)), (0, .ref y0), (1, .ref a0), (2, .int (nI 0)), (3, .int tk), (4, .int sum)]) hx hb dX0_layFrom_111 hl (by decide) rfl (fun ls hl => ?_)
                  refine lv_aload_n hx hb dX0_layFrom_113 rfl (lv_at hl 2 rfl) ?_
                  refine lv_aload_n hx hb dX0_layFrom_114 rfl (lv_at hl 3 rfl) ?_
                  refine lv_iload_n hx hb dX0_layFrom_115 rfl (lv_at hl 4 rfl) ?_
                  refine lv_iconst (v := (nI 1)) hx hb dX0_layFrom_116 (by decide +kernel) ?_
                  refine lv_iadd hx hb dX0_layFrom_117 ?_
                  refine g_vi (y := (nI 1)) (by decide +kernel) ?_
                  refine lv_iload_n hx hb dX0_layFrom_118 rfl (lv_at hl 5 rfl) ?_
                  refine lv_iconst (v := (nI 1)) hx hb dX0_layFrom_119 (by decide +kernel) ?_
                  refine lv_iload hx hb dX0_layFrom_120 (lv_at hl 1 rfl) ?_
                  refine lv_ishl hx hb dX0_layFrom_122 ?_
                  refine lv_ior hx hb dX0_layFrom_123 ?_
                  refine lv_iload hx hb dX0_layFrom_124 (lv_at hl 6 rfl) ?_
                  refine lv_iload hx hb dX0_layFrom_126 (lv_at hl 0 rfl) ?_
                  refine lv_iadd hx hb dX0_layFrom_128 ?_
                  refine g_callV (wr := []) (nA := 4) hC V hl.1 (y_lay1 l D T y0 a0 (tk ||| ((nI 1) <<< ((nI k57) &&& 31))) (sum + x_16) bv y1 y2 ga (upd gb 0 (nI k57)) an am al ao au a1 a2 a3 a4 a5 a6 a7 a8 a9 a10 af1 af2 (by first | assumption | omega) (up_all (p := fun x => x = -1 ∨ bd x 7) hgb (fun _ => Or.inr (bd_nI (by omega))))) w_804 w_806 w_s31 w_7 w_807 (by decide +kernel) rfl ⟨(Nat.le_of_ble_eq_true rfl), (Nat.le_of_ble_eq_true rfl)⟩ 0 (ci := 0) rfl rfl [0, 1, 2, 3, 4, 5] [] rfl rfl rfl rfl (by decide) (Nat.le_of_ble_eq_true rfl) dX0_layFrom_129 ⟨(Nat.le_of_ble_eq_true rfl), (Nat.le_of_ble_eq_true rfl)⟩ rfl (fun r w1 H locs hQ V => ?_)
                  obtain ⟨bs_17, g1_18, g2_19, rfl, rfl, f_20⟩ := hQ
                  have V : gW D T A s [(y0, .inr (0, [.int bs_17, .ref y1, .ref y2])), (y1, .inl (T 0, 7, .inl g1_18)), (y2, .inl (T 0, 7, .inl g2_19)), (a0, .inr (5, [.int (nI an), .int am, .int al, .int ao, .int au, .ref a1, .ref a2, .ref a3, .ref a4, .ref a5, .ref a6, .ref a7, .ref a8, .ref a9, .ref a10])), (a1, .inl (T 0, 10, .inl af1)), (a2, .inl (T 0, 10, .inl af2))] H locs := V
                  show W p l e _ s m args below meth c H locs _ _ _ (F0 m 132 ls [])
                  have hq := up_all (p := fun x => x = -1 ∨ bd x 7) (k := 0) (x := -1) f_20 (fun _ => Or.inl rfl)
                  refine lv_aload_n hx hb dX0_layFrom_132 rfl (lv_at hl 2 rfl) ?_
                  refine g_get hC V (ci := 0) uwX0 0 rfl rfl 2 (by decide) w_215 rfl rfl dX0_layFrom_133 ?_
                  refine lv_iload_n hx hb dX0_layFrom_136 rfl (lv_at hl 4 rfl) ?_
                  refine lv_iconst (v := (-1)) hx hb dX0_layFrom_137 (by decide +kernel) ?_
                  refine g_iast hC V 2 rfl (vp_in_nI (by decide) (by decide)) (f' := (upd g2_19 0 (-1))) (by rw [nI_clamp (by decide)]) (ws' := [(y0, .inr (0, [.int bs_17, .ref y1, .ref y2])), (y1, .inl (T 0, 7, .inl g1_18)), (y2, .inl (T 0, 7, .inl (upd g2_19 0 (-1)))), (a0, .inr (5, [.int (nI an), .int am, .int al, .int ao, .int au, .ref a1, .ref a2, .ref a3, .ref a4, .ref a5, .ref a6, .ref a7, .ref a8, .ref a9, .ref a10])), (a1, .inl (T 0, 10, .inl af1)), (a2, .inl (T 0, 10, .inl af2))]) rfl dX0_layFrom_138 (fun H locs V => ?_)
                  refine lv_iinc (v := (nI (k57 + 1))) (lv' := [(5, .int (nI (k57 + 1))), (6, .int x_16), (0, .ref y0), (1, .ref a0), (2, .int (nI 0)), (3, .int tk), (4, .int sum)]) hx hb dX0_layFrom_139 hl (k := 1) rfl (nI_1 _) (by decide) rfl (fun ls hl => ?_)
                  refine lv_goto (tgt := 57) hx hb dX0_layFrom_142 (by decide) ?_
                  exact ih_57 (k57 + 1) bs_17 g1_18 (upd g2_19 0 (-1)) (by omega) (by assumption) (by omega) _ _ _ V (lv_sub hl [0, 2, 3, 4, 5, 6] rfl)
        exact L_14 _ 0 ys yb yt (by omega) h_yt (Nat.lt_succ_self _) _ _ _ V (lv_sub hl [0, 1, 2, 3, 4, 5] rfl)
    · skip
      exact g_vret (Qr := (q_y_lay0 T y0 a0 tk sum ys y1 y2 yb yt an am al ao au a1 a2 a3 a4 a5 a6 a7 a8 a9 a10 af1 af2)) hC V ⟨(Nat.le_of_ble_eq_true rfl), (Nat.le_of_ble_eq_true rfl)⟩ ⟨ys, yb, yt, rfl, rfl, (by first | assumption | omega)⟩ dX0_layFrom_17

def q_y_seekBest (T : Nat → ClassId) (y0 : Nat) (a0 : Nat) (ys : Int32) (y1 : Nat) (y2 : Nat) (yb : Nat → Int32) (yt0 : Nat → Int32) (an : Nat) (am : Int32) (al : Int32) (ao : Int32) (au : Int32) (a1 : Nat) (a2 : Nat) (a3 : Nat) (a4 : Nat) (a5 : Nat) (a6 : Nat) (a7 : Nat) (a8 : Nat) (a9 : Nat) (a10 : Nat) (af1 : Nat → Int32) (af2 : Nat → Int32) : Option Value → va_W → Prop := fun rr ww => (∃ (bs : Int32) (g1 : Nat → Int32) (g2 : Nat → Int32), rr = none ∧ ww = [(y0, .inr (0, [.int bs, .ref y1, .ref y2])), (y1, .inl (T 0, 7, .inl g1)), (y2, .inl (T 0, 7, .inl g2)), (a0, .inr (5, [.int (nI an), .int am, .int al, .int ao, .int au, .ref a1, .ref a2, .ref a3, .ref a4, .ref a5, .ref a6, .ref a7, .ref a8, .ref a9, .ref a10])), (a1, .inl (T 0, 10, .inl af1)), (a2, .inl (T 0, 10, .inl af2))] ∧ (∀ i, i < 7 → (g2 i = -1 ∨ bd (g2 i) 7)))
set_option maxHeartbeats 4000000 in
set_option maxRecDepth 100000 in
theorem y_seekBest (l : Launch) (D : va_G) (T : Nat → ClassId) (y0 : Nat) (a0 : Nat) (ys : Int32) (y1 : Nat) (y2 : Nat) (yb : Nat → Int32) (yt0 : Nat → Int32) (an : Nat) (am : Int32) (al : Int32) (ao : Int32) (au : Int32) (a1 : Nat) (a2 : Nat) (a3 : Nat) (a4 : Nat) (a5 : Nat) (a6 : Nat) (a7 : Nat) (a8 : Nat) (a9 : Nat) (a10 : Nat) (af1 : Nat → Int32) (af2 : Nat → Int32) (h_n : an ≤ 7) : Ct l yX0_seekBest cX0_seekBest 2 none 10 0 0 D T [.ref y0, .ref a0] [(y0, .inr (0, [.int ys, .ref y1, .ref y2])), (y1, .inl (T 0, 7, .inl yb)), (y2, .inl (T 0, 7, .inl yt0)), (a0, .inr (5, [.int (nI an), .int am, .int al, .int ao, .int au, .ref a1, .ref a2, .ref a3, .ref a4, .ref a5, .ref a6, .ref a7, .ref a8, .ref a9, .ref a10])), (a1, .inl (T 0, 10, .inl af1)), (a2, .inl (T 0, 10, .inl af2))] (q_y_seekBest T y0 a0 ys y1 y2 yb yt0 an am al ao au a1 a2 a3 a4 a5 a6 a7 a8 a9 a10 af1 af2) := by
  refine Ct.of (cc := cX0_seekBest) (maxL := 2) (ret := none) (by decide) (Nat.le_of_ble_eq_true rfl) ?_
  intro p e s m args below meth c A ls hC hnm V hl
  obtain ⟨hx, hb, hr, hml, hown, hts, hlocks⟩ := id hC
  generalize hH : s.heap = H at V ⊢
  clear hH
  have hl : lv_has ls 2 [(0, .ref y0), (1, .ref a0)] := hl
  generalize hlo : ([] : List Loc) = locs at V ⊢
  clear hlo
  refine lv_aload_n hx hb dX0_seekBest_0 rfl (lv_at hl 0 rfl) ?_
  refine lv_iconst (v := (-1)) hx hb dX0_seekBest_1 (by decide +kernel) ?_
  refine g_put hC V (ci := 0) uwX0 tyX0 tyX0_ok nmX0 0 rfl rfl 0 (by decide) w_211 rfl rfl rfl rfl (Nat.le_of_ble_eq_true rfl) (ws' := [(y0, .inr (0, [.int (-1), .ref y1, .ref y2])), (y1, .inl (T 0, 7, .inl yb)), (y2, .inl (T 0, 7, .inl yt0)), (a0, .inr (5, [.int (nI an), .int am, .int al, .int ao, .int au, .ref a1, .ref a2, .ref a3, .ref a4, .ref a5, .ref a6, .ref a7, .ref a8, .ref a9, .ref a10])), (a1, .inl (T 0, 10, .inl af1)), (a2, .inl (T 0, 10, .inl af2))]) rfl dX0_seekBest_2 (fun H locs V => ?_)
  refine lv_aload_n hx hb dX0_seekBest_5 rfl (lv_at hl 0 rfl) ?_
  refine g_get hC V (ci := 0) uwX0 0 rfl rfl 2 (by decide) w_215 rfl rfl dX0_seekBest_6 ?_
  refine lv_iconst (v := (-1)) hx hb dX0_seekBest_9 (by decide +kernel) ?_
  refine g_callSU (nA := 2) hC V hl.1 (c_fill7 l D T y2 (-1) yt0) w_803 w_307 w_11 w_308 (by decide +kernel) rfl ⟨(Nat.le_of_ble_eq_true rfl), (Nat.le_of_ble_eq_true rfl)⟩ [2] rfl rfl (Nat.le_of_ble_eq_true rfl) dX0_seekBest_10 ⟨(Nat.le_of_ble_eq_true rfl), (Nat.le_of_ble_eq_true rfl)⟩ rfl (fun r w1 H locs hQ V => ?_)
  obtain ⟨g_1, rfl, rfl, f_2⟩ := hQ
  have V : gW D T A s [(y0, .inr (0, [.int (-1), .ref y1, .ref y2])), (y1, .inl (T 0, 7, .inl yb)), (y2, .inl (T 0, 7, .inl g_1)), (a0, .inr (5, [.int (nI an), .int am, .int al, .int ao, .int au, .ref a1, .ref a2, .ref a3, .ref a4, .ref a5, .ref a6, .ref a7, .ref a8, .ref a9, .ref a10])), (a1, .inl (T 0, 10, .inl af1)), (a2, .inl (T 0, 10, .inl af2))] H locs := V _ [2] rfl rfl rfl (by decide +kernel) rfl
  show W p l e _ s m args below meth c H locs _ _ _ (F0 m 13 ls [])
  have hfi := f_2
  refine lv_aload_n hx hb dX0_seekBest_13 rfl (lv_at hl 0 rfl) ?_
  refine lv_aload_n hx hb dX0_seekBest_14 rfl (lv_at hl 1 rfl) ?_
  refine lv_iconst (v := (nI 0)) hx hb dX0_seekBest_15 (by decide +kernel) ?_
  refine lv_iconst (v := (nI 0)) hx hb dX0_seekBest_16 (by decide +kernel) ?_
  refine lv_iconst (v := (nI 0)) hx hb dX0_seekBest_17 (by decide +kernel) ?_
  refine g_callV (wr := []) (nA := 4) hC V hl.1 (y_lay0 l D T y0 a0 (nI 0) (nI 0) (-1) y1 y2 yb g_1 an am al ao au a1 a2 a3 a4 a5 a6 a7 a8 a9 a10 af1 af2 (by first | assumption | omega) (fun i h => Or.inl (hfi i h))) w_804 w_806 w_s31 w_7 w_807 (by decide +kernel) rfl ⟨(Nat.le_of_ble_eq_true rfl), (Nat.le_of_ble_eq_true rfl)⟩ 0 (ci := 0) rfl rfl [0, 1, 2, 3, 4, 5] [] rfl rfl rfl rfl (by decide) (Nat.le_of_ble_eq_true rfl) dX0_seekBest_18 ⟨(Nat.le_of_ble_eq_true rfl), (Nat.le_of_ble_eq_true rfl)⟩ rfl (fun r w1 H locs hQ V => ?_)
  obtain ⟨bs_3, g1_4, g2_5, rfl, rfl, f_6⟩ := hQ
  have V : gW D T A s [(y0, .inr (0, [.int bs_3, .ref y1, .ref y2])), (y1, .inl (T 0, 7, .inl g1_4)), (y2, .inl (T 0, 7, .inl g2_5)), (a0, .inr (5, [.int (nI an), .int am, .int al, .int ao, .int au, .ref a1, .ref a2, .ref a3, .ref a4, .ref a5, .ref a6, .ref a7, .ref a8, .ref a9, .ref a10])), (a1, .inl (T 0, 10, .inl af1)), (a2, .inl (T 0, 10, .inl af2))] H locs := V
  show W p l e _ s m args below meth c H locs _ _ _ (F0 m 21 ls [])
  exact g_vret (Qr := (q_y_seekBest T y0 a0 ys y1 y2 yb yt0 an am al ao au a1 a2 a3 a4 a5 a6 a7 a8 a9 a10 af1 af2)) hC V ⟨(Nat.le_of_ble_eq_true rfl), (Nat.le_of_ble_eq_true rfl)⟩ ⟨bs_3, g1_4, g2_5, rfl, rfl, (by first | assumption | omega)⟩ dX0_seekBest_21
