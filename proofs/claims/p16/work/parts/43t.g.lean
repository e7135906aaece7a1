def q_t_isForeign_f (T : Nat → ClassId) (a0 : Nat) (v : Int64) (an : Nat) (am : Int32) (al : Int32) (ao : Int32) (au : Int32) (a1 : Nat) (a2 : Nat) (a3 : Nat) (a4 : Nat) (a5 : Nat) (a6 : Nat) (a7 : Nat) (a8 : Nat) (a9 : Nat) (a10 : Nat) : Option Value → va_W → Prop := fun rr ww => (rr = some (.int (nI 1)) ∧ ww = [(a0, .inr (5, [.int (nI an), .int am, .int al, .int ao, .int au, .ref a1, .ref a2, .ref a3, .ref a4, .ref a5, .ref a6, .ref a7, .ref a8, .ref a9, .ref a10]))] ∧ ¬ setL an v) ∨ (rr = some (.int (nI 0)) ∧ ww = [(a0, .inr (5, [.int (nI an), .int am, .int al, .int ao, .int au, .ref a1, .ref a2, .ref a3, .ref a4, .ref a5, .ref a6, .ref a7, .ref a8, .ref a9, .ref a10]))] ∧ setL an v)
set_option maxHeartbeats 4000000 in
set_option maxRecDepth 100000 in
theorem t_isForeign_f (l : Launch) (D : va_G) (T : Nat → ClassId) (a0 : Nat) (v : Int64) (an : Nat) (am : Int32) (al : Int32) (ao : Int32) (au : Int32) (a1 : Nat) (a2 : Nat) (a3 : Nat) (a4 : Nat) (a5 : Nat) (a6 : Nat) (a7 : Nat) (a8 : Nat) (a9 : Nat) (a10 : Nat) (h_n : an ≤ 10) : Ct l yX6_isForeign cX6_isForeign 3 (some .boolean) 1 0 0 D T [.ref a0, .long v] [(a0, .inr (5, [.int (nI an), .int am, .int al, .int ao, .int au, .ref a1, .ref a2, .ref a3, .ref a4, .ref a5, .ref a6, .ref a7, .ref a8, .ref a9, .ref a10]))] (q_t_isForeign_f T a0 v an am al ao au a1 a2 a3 a4 a5 a6 a7 a8 a9 a10) := by
  refine Ct.of (cc := cX6_isForeign) (maxL := 3) (ret := (some .boolean)) (by decide) (Nat.le_of_ble_eq_true rfl) ?_
  intro p e s m args below meth c A ls hC hnm V hl
  obtain ⟨hx, hb, hr, hml, hown, hts, hlocks⟩ := id hC
  generalize hH : s.heap = H at V ⊢
  clear hH
  have hl : lv_has ls 3 [(0, .ref a0), (1, .long v)] := hl
  generalize hlo : ([] : List Loc) = locs at V ⊢
  clear hlo
  refine lv_lload_n hx hb dX6_isForeign_0 rfl (lv_at hl 1 rfl) ?_
  refine lv_lconst (v := (nI 0).toInt64) hx hb dX6_isForeign_1 (by decide +kernel) ?_
  refine W.lcmp hx hb dX6_isForeign_2 ?_
  refine lv_if_lt (tgt := 16) hx hb dX6_isForeign_3 (by decide) (fun c_1 => ?_) (fun c_1 => ?_)
  · skip
    have c_1 := (lg_cmp_lt _ _).mp c_1
    refine lv_iconst (v := (nI 1)) hx hb dX6_isForeign_16 (by decide +kernel) ?_
    refine lv_goto (tgt := 21) hx hb dX6_isForeign_17 (by decide) ?_
    exact g_zret (Qr := (q_t_isForeign_f T a0 v an am al ao au a1 a2 a3 a4 a5 a6 a7 a8 a9 a10)) hC V ⟨(Nat.le_of_ble_eq_true rfl), (Nat.le_of_ble_eq_true rfl)⟩ (by first | decide +kernel | exact rfl) (.inl ⟨rfl, rfl, (fun h => h (by first | exact Or.inl (by assumption) | exact Or.inr (by assumption)))⟩) dX6_isForeign_21
  · skip
    have c_1 := fun h => c_1 ((lg_cmp_lt _ _).mpr h)
    refine lv_lload_n hx hb dX6_isForeign_6 rfl (lv_at hl 1 rfl) ?_
    refine lv_aload_n hx hb dX6_isForeign_7 rfl (lv_at hl 0 rfl) ?_
    refine g_callV (wr := []) (nA := 0) hC V hl.1 (s_everyone l D T a0 an am al ao au a1 a2 a3 a4 a5 a6 a7 a8 a9 a10 (by first | assumption | omega)) w_514 w_463 w_464 w_3 w_465 (by decide +kernel) rfl ⟨(Nat.le_of_ble_eq_true rfl), (Nat.le_of_ble_eq_true rfl)⟩ 0 (ci := 5) rfl rfl [0] [] rfl rfl rfl rfl (by decide) (Nat.le_of_ble_eq_true rfl) dX6_isForeign_8 ⟨(Nat.le_of_ble_eq_true rfl), (Nat.le_of_ble_eq_true rfl)⟩ rfl (fun r w1 H locs hQ V => ?_)
    obtain ⟨rfl, rfl⟩ := hQ
    have V : gW D T A s [(a0, .inr (5, [.int (nI an), .int am, .int al, .int ao, .int au, .ref a1, .ref a2, .ref a3, .ref a4, .ref a5, .ref a6, .ref a7, .ref a8, .ref a9, .ref a10]))] H locs := V
    show W p l e _ s m args below meth c H locs _ _ _ (F0 m 11 ls [.int (nI (2 ^ an - 1)), .long v])
    refine lv_i2l (v := (nI (2 ^ an - 1)).toInt64) hx hb dX6_isForeign_11 rfl ?_
    refine W.lcmp hx hb dX6_isForeign_12 ?_
    refine lv_if_le (tgt := 20) hx hb dX6_isForeign_13 (by decide) (fun c_2 => ?_) (fun c_2 => ?_)
    · skip
      have c_2 := fun h => (Int32.not_lt.mpr c_2) ((lg_cmp_gt _ _).mpr h)
      refine lv_iconst (v := (nI 0)) hx hb dX6_isForeign_20 (by decide +kernel) ?_
      exact g_zret (Qr := (q_t_isForeign_f T a0 v an am al ao au a1 a2 a3 a4 a5 a6 a7 a8 a9 a10)) hC V ⟨(Nat.le_of_ble_eq_true rfl), (Nat.le_of_ble_eq_true rfl)⟩ (by first | decide +kernel | exact rfl) (.inr ⟨rfl, rfl, (fun q => q.elim (by assumption) (by assumption))⟩) dX6_isForeign_21
    · skip
      have c_2 := (lg_cmp_gt _ _).mp (Int32.not_le.mp c_2)
      refine lv_iconst (v := (nI 1)) hx hb dX6_isForeign_16 (by decide +kernel) ?_
      refine lv_goto (tgt := 21) hx hb dX6_isForeign_17 (by decide) ?_
      exact g_zret (Qr := (q_t_isForeign_f T a0 v an am al ao au a1 a2 a3 a4 a5 a6 a7 a8 a9 a10)) hC V ⟨(Nat.le_of_ble_eq_true rfl), (Nat.le_of_ble_eq_true rfl)⟩ (by first | decide +kernel | exact rfl) (.inl ⟨rfl, rfl, (fun h => h (by first | exact Or.inl (by assumption) | exact Or.inr (by assumption)))⟩) dX6_isForeign_21

def q_t_whyNot_f (T : Nat → ClassId) (fa : Nat → Int32) (R : Nat → Int64) (a0 : Nat) (r0 : Nat) (i : Nat) (an : Nat) (am : Int32) (al : Int32) (ao : Int32) (au : Int32) (a1 : Nat) (a2 : Nat) (a3 : Nat) (a4 : Nat) (a5 : Nat) (a6 : Nat) (a7 : Nat) (a8 : Nat) (a9 : Nat) (a10 : Nat) (rh : Int32) (rz : Nat) (r1 : Nat) (rs : Nat) (rf : Nat → Int64) : Option Value → va_W → Prop := fun rr ww => (rr = some (.int (nI 0)) ∧ ww = [(a0, .inr (5, [.int (nI an), .int am, .int al, .int ao, .int au, .ref a1, .ref a2, .ref a3, .ref a4, .ref a5, .ref a6, .ref a7, .ref a8, .ref a9, .ref a10])), (r0, .inr (1, [.int rh, .int (nI rz), .ref r1, .int (nI rs)])), (r1, .inl (T 1, 40, .inr (.inl rf)))] ∧ i + 1 < rz ∧ nI 0 = whL an fa R rz i) ∨ (∃ (z : Int32), rr = some (.int z) ∧ ww = [(a0, .inr (5, [.int (nI an), .int am, .int al, .int ao, .int au, .ref a1, .ref a2, .ref a3, .ref a4, .ref a5, .ref a6, .ref a7, .ref a8, .ref a9, .ref a10])), (r0, .inr (1, [.int rh, .int (nI rz), .ref r1, .int (nI rs)])), (r1, .inl (T 1, 40, .inr (.inl rf)))] ∧ ¬ z = 0 ∧ z = whL an fa R rz i)
set_option maxHeartbeats 4000000 in
set_option maxRecDepth 100000 in
theorem t_whyNot_f (l : Launch) (D : va_G) (T : Nat → ClassId) (fa : Nat → Int32) (R : Nat → Int64) (a0 : Nat) (r0 : Nat) (i : Nat) (an : Nat) (am : Int32) (al : Int32) (ao : Int32) (au : Int32) (a1 : Nat) (a2 : Nat) (a3 : Nat) (a4 : Nat) (a5 : Nat) (a6 : Nat) (a7 : Nat) (a8 : Nat) (a9 : Nat) (a10 : Nat) (rh : Int32) (rz : Nat) (r1 : Nat) (rs : Nat) (rf : Nat → Int64) (h_n : an ≤ 10) (h_z : rz ≤ 40) (h_i : i < rz) (h_r : ∀ i, i < rz → rf i = R i) (h_m : fa 1 = am) (h_mn : bd (fa 1) 10000) : Ct l yX6_whyNot cX6_whyNot 7 (some .int) 2 0 0 D T [.ref a0, .ref r0, .int (nI i)] [(a0, .inr (5, [.int (nI an), .int am, .int al, .int ao, .int au, .ref a1, .ref a2, .ref a3, .ref a4, .ref a5, .ref a6, .ref a7, .ref a8, .ref a9, .ref a10])), (r0, .inr (1, [.int rh, .int (nI rz), .ref r1, .int (nI rs)])), (r1, .inl (T 1, 40, .inr (.inl rf)))] (q_t_whyNot_f T fa R a0 r0 i an am al ao au a1 a2 a3 a4 a5 a6 a7 a8 a9 a10 rh rz r1 rs rf) := by
  refine Ct.of (cc := cX6_whyNot) (maxL := 7) (ret := (some .int)) (by decide) (Nat.le_of_ble_eq_true rfl) ?_
  intro p e s m args below meth c A ls hC hnm V hl
  obtain ⟨hx, hb, hr, hml, hown, hts, hlocks⟩ := id hC
  generalize hH : s.heap = H at V ⊢
  clear hH
  have hl : lv_has ls 7 [(0, .ref a0), (1, .ref r0), (2, .int (nI i))] := hl
  generalize hlo : ([] : List Loc) = locs at V ⊢
  clear hlo
  refine lv_aload_n hx hb dX6_whyNot_0 rfl (lv_at hl 1 rfl) ?_
  refine g_get hC V (ci := 1) uwX1 1 rfl rfl 2 (by decide) w_235 rfl rfl dX6_whyNot_1 ?_
  refine lv_iload_n hx hb dX6_whyNot_4 rfl (lv_at hl 2 rfl) ?_
  refine g_lald hC V 2 rfl (vp_in_nI (by omega) (by omega)) (v := (rf i)) (congrArg _ (nI_clamp (by omega))) dX6_whyNot_5 ?_
  refine lv_lstore_n (lv' := [(3, .long (rf i)), (0, .ref a0), (1, .ref r0), (2, .int (nI i))]) hx hb dX6_whyNot_6 rfl hl (by decide) rfl (fun ls hl => ?_)
  refine lv_aload_n hx hb dX6_whyNot_7 rfl (lv_at hl 1 rfl) ?_
  refine lv_lload_n hx hb dX6_whyNot_8 rfl (lv_at hl 0 rfl) ?_
  refine g_callSU (nA := 2) hC V hl.1 (t_isForeign_f l D T a0 (rf i) an am al ao au a1 a2 a3 a4 a5 a6 a7 a8 a9 a10 (by first | assumption | omega)) w_511 w_512 w_5 w_513 (by decide +kernel) rfl ⟨(Nat.le_of_ble_eq_true rfl), (Nat.le_of_ble_eq_true rfl)⟩ [0] rfl rfl (Nat.le_of_ble_eq_true rfl) dX6_whyNot_9 ⟨(Nat.le_of_ble_eq_true rfl), (Nat.le_of_ble_eq_true rfl)⟩ rfl (fun r w1 H locs hQ V => ?_)
  rcases hQ with ⟨rfl, rfl, f_1⟩ | ⟨rfl, rfl, f_2⟩
  · have V : gW D T A s [(a0, .inr (5, [.int (nI an), .int am, .int al, .int ao, .int au, .ref a1, .ref a2, .ref a3, .ref a4, .ref a5, .ref a6, .ref a7, .ref a8, .ref a9, .ref a10])), (r0, .inr (1, [.int rh, .int (nI rz), .ref r1, .int (nI rs)])), (r1, .inl (T 1, 40, .inr (.inl rf)))] H locs := V _ [0] rfl rfl rfl (by decide +kernel) rfl
    show W p l e _ s m args below meth c H locs _ _ _ (F0 m 12 ls [.int (nI 1)])
    refine lv_if_eq (tgt := 17) hx hb dX6_whyNot_12 (by decide) (fun c => absurd (show (nI 1) = 0 from c) (by decide +kernel)) (fun _ => ?_)
    refine lv_iconst (v := (nI 1)) hx hb dX6_whyNot_15 (by decide +kernel) ?_
    exact g_iret (Qr := (q_t_whyNot_f T fa R a0 r0 i an am al ao au a1 a2 a3 a4 a5 a6 a7 a8 a9 a10 rh rz r1 rs rf)) hC V ⟨(Nat.le_of_ble_eq_true rfl), (Nat.le_of_ble_eq_true rfl)⟩ (.inr ⟨(nI 1), rfl, rfl, (by decide +kernel), (wl_1 (R := R) (h_r i h_i) f_1)⟩) dX6_whyNot_16
  · have V : gW D T A s [(a0, .inr (5, [.int (nI an), .int am, .int al, .int ao, .int au, .ref a1, .ref a2, .ref a3, .ref a4, .ref a5, .ref a6, .ref a7, .ref a8, .ref a9, .ref a10])), (r0, .inr (1, [.int rh, .int (nI rz), .ref r1, .int (nI rs)])), (r1, .inl (T 1, 40, .inr (.inl rf)))] H locs := V _ [0] rfl rfl rfl (by decide +kernel) rfl
    show W p l e _ s m args below meth c H locs _ _ _ (F0 m 12 ls [.int (nI 0)])
    refine lv_if_eq (tgt := 17) hx hb dX6_whyNot_12 (by decide) (fun _ => ?_) (fun c => absurd (show (nI 0) = 0 by decide +kernel) c)
    refine lv_iload_n hx hb dX6_whyNot_17 rfl (lv_at hl 3 rfl) ?_
    refine lv_iconst (v := (nI 1)) hx hb dX6_whyNot_18 (by decide +kernel) ?_
    refine lv_iadd hx hb dX6_whyNot_19 ?_
    refine g_vi (y := (nI (i + 1))) (nI_add _ _) ?_
    refine lv_aload_n hx hb dX6_whyNot_20 rfl (lv_at hl 2 rfl) ?_
    refine g_get hC V (ci := 1) uwX1 1 rfl rfl 1 (by decide) w_231 rfl rfl dX6_whyNot_21 ?_
    refine lv_icmp_lt (tgt := 29) hx hb dX6_whyNot_24 (by decide) (fun c_3 => ?_) (fun c_3 => ?_)
    · skip
      have c_3 := b_lt (by omega) (by omega) c_3
      refine lv_aload_n hx hb dX6_whyNot_29 rfl (lv_at hl 2 rfl) ?_
      refine g_get hC V (ci := 1) uwX1 1 rfl rfl 2 (by decide) w_235 rfl rfl dX6_whyNot_30 ?_
      refine lv_iload_n hx hb dX6_whyNot_33 rfl (lv_at hl 3 rfl) ?_
      refine lv_iconst (v := (nI 1)) hx hb dX6_whyNot_34 (by decide +kernel) ?_
      refine lv_iadd hx hb dX6_whyNot_35 ?_
      refine g_vi (y := (nI (i + 1))) (nI_add _ _) ?_
      refine g_lald hC V 2 rfl (vp_in_nI (by omega) (by omega)) (v := (rf (i + 1))) (congrArg _ (nI_clamp (by omega))) dX6_whyNot_36 ?_
      refine lv_lstore (lv' := [(5, .long (rf (i + 1))), (3, .long (rf i)), (0, .ref a0), (1, .ref r0), (2, .int (nI i))]) hx hb dX6_whyNot_37 hl (by decide) rfl (fun ls hl => ?_)
      refine lv_aload_n hx hb dX6_whyNot_39 rfl (lv_at hl 2 rfl) ?_
      refine lv_lload hx hb dX6_whyNot_40 (lv_at hl 0 rfl) ?_
      refine g_callSU (nA := 2) hC V hl.1 (t_isForeign_f l D T a0 (rf (i + 1)) an am al ao au a1 a2 a3 a4 a5 a6 a7 a8 a9 a10 (by first | assumption | omega)) w_511 w_512 w_5 w_513 (by decide +kernel) rfl ⟨(Nat.le_of_ble_eq_true rfl), (Nat.le_of_ble_eq_true rfl)⟩ [0] rfl rfl (Nat.le_of_ble_eq_true rfl) dX6_whyNot_42 ⟨(Nat.le_of_ble_eq_true rfl), (Nat.le_of_ble_eq_true rfl)⟩ rfl (fun r w1 H locs hQ V => ?_)
      rcases hQ with ⟨rfl, rfl, f_4⟩ | ⟨rfl, rfl, f_5⟩
      · have V : gW D T A s [(a0, .inr (5, [.int (nI an), .int am, .int al, .int ao, .int au, .ref a1, .ref a2, .ref a3, .ref a4, .ref a5, .ref a6, .ref a7, .ref a8, .ref a9, .ref a10])), (r0, .inr (1, [.int rh, .int (nI rz), .ref r1, .int (nI rs)])), (r1, .inl (T 1, 40, .inr (.inl rf)))] H locs := V _ [0] rfl rfl rfl (by decide +kernel) rfl
        show W p l e _ s m args below meth c H locs _ _ _ (F0 m 45 ls [.int (nI 1)])
        refine lv_if_eq (tgt := 50) hx hb dX6_whyNot_45 (by decide) (fun c => absurd (show (nI 1) = 0 from c) (by decide +kernel)) (fun _ => ?_)
        refine lv_iconst (v := (nI 1)) hx hb dX6_whyNot_48 (by decide +kernel) ?_
        exact g_iret (Qr := (q_t_whyNot_f T fa R a0 r0 i an am al ao au a1 a2 a3 a4 a5 a6 a7 a8 a9 a10 rh rz r1 rs rf)) hC V ⟨(Nat.le_of_ble_eq_true rfl), (Nat.le_of_ble_eq_true rfl)⟩ (.inr ⟨(nI 1), rfl, rfl, (by decide +kernel), (wl_1b (R := R) (h_r i h_i) f_2 (by omega) (h_r (i + 1) (by omega)) f_4)⟩) dX6_whyNot_49
      · have V : gW D T A s [(a0, .inr (5, [.int (nI an), .int am, .int al, .int ao, .int au, .ref a1, .ref a2, .ref a3, .ref a4, .ref a5, .ref a6, .ref a7, .ref a8, .ref a9, .ref a10])), (r0, .inr (1, [.int rh, .int (nI rz), .ref r1, .int (nI rs)])), (r1, .inl (T 1, 40, .inr (.inl rf)))] H locs := V _ [0] rfl rfl rfl (by decide +kernel) rfl
        show W p l e _ s m args below meth c H locs _ _ _ (F0 m 45 ls [.int (nI 0)])
        refine lv_if_eq (tgt := 50) hx hb dX6_whyNot_45 (by decide) (fun _ => ?_) (fun c => absurd (show (nI 0) = 0 by decide +kernel) c)
        refine lv_lload_n hx hb dX6_whyNot_50 rfl (lv_at hl 1 rfl) ?_
        refine lv_lload hx hb dX6_whyNot_51 (lv_at hl 0 rfl) ?_
        refine lv_land hx hb dX6_whyNot_53 ?_
        refine lv_lconst (v := (nI 0).toInt64) hx hb dX6_whyNot_54 (by decide +kernel) ?_
        refine W.lcmp hx hb dX6_whyNot_55 ?_
        refine lv_if_eq (tgt := 61) hx hb dX6_whyNot_56 (by decide) (fun c_6 => ?_) (fun c_6 => ?_)
        · skip
          refine lv_aload_n hx hb dX6_whyNot_61 rfl (lv_at hl 2 rfl) ?_
          refine g_get hC V (ci := 5) uwX5 0 rfl rfl 1 (by decide) w_40 rfl rfl dX6_whyNot_62 ?_
          refine lv_sipush (v := (nI 9999)) hx hb dX6_whyNot_65 (by decide +kernel) ?_
          refine lv_icmp_lt (tgt := 75) hx hb dX6_whyNot_68 (by decide) (fun c_7 => ?_) (fun c_7 => ?_)
          · skip
            refine lv_iconst (v := (nI 0)) hx hb dX6_whyNot_75 (by decide +kernel) ?_
            exact g_iret (Qr := (q_t_whyNot_f T fa R a0 r0 i an am al ao au a1 a2 a3 a4 a5 a6 a7 a8 a9 a10 rh rz r1 rs rf)) hC V ⟨(Nat.le_of_ble_eq_true rfl), (Nat.le_of_ble_eq_true rfl)⟩ (.inl ⟨rfl, rfl, (by omega), (wl_0 (R := R) (h_r i h_i) f_2 (by omega) (h_r (i + 1) (by omega)) f_5 ((lg_cmp_eq _ _).mp c_6) (m9_lt h_m c_7))⟩) dX6_whyNot_76
          · skip
            refine lv_iconst (v := (nI 4)) hx hb dX6_whyNot_71 (by decide +kernel) ?_
            refine lv_goto (tgt := 76) hx hb dX6_whyNot_72 (by decide) ?_
            exact g_iret (Qr := (q_t_whyNot_f T fa R a0 r0 i an am al ao au a1 a2 a3 a4 a5 a6 a7 a8 a9 a10 rh rz r1 rs rf)) hC V ⟨(Nat.le_of_ble_eq_true rfl), (Nat.le_of_ble_eq_true rfl)⟩ (.inr ⟨(nI 4), rfl, rfl, (by decide +kernel), (wl_4 (R := R) (h_r i h_i) f_2 (by omega) (h_r (i + 1) (by omega)) f_5 ((lg_cmp_eq _ _).mp c_6) (m9_ge h_m h_mn c_7))⟩) dX6_whyNot_76
        · skip
          refine lv_iconst (v := (nI 2)) hx hb dX6_whyNot_59 (by decide +kernel) ?_
          exact g_iret (Qr := (q_t_whyNot_f T fa R a0 r0 i an am al ao au a1 a2 a3 a4 a5 a6 a7 a8 a9 a10 rh rz r1 rs rf)) hC V ⟨(Nat.le_of_ble_eq_true rfl), (Nat.le_of_ble_eq_true rfl)⟩ (.inr ⟨(nI 2), rfl, rfl, (by decide +kernel), (wl_2 (R := R) (h_r i h_i) f_2 (by omega) (h_r (i + 1) (by omega)) f_5 (fun q => c_6 ((lg_cmp_eq _ _).mpr q)))⟩) dX6_whyNot_60
    · skip
      have c_3 := b_nlt (by omega) (by omega) c_3
      refine lv_iconst (v := (nI 3)) hx hb dX6_whyNot_27 (by decide +kernel) ?_
      exact g_iret (Qr := (q_t_whyNot_f T fa R a0 r0 i an am al ao au a1 a2 a3 a4 a5 a6 a7 a8 a9 a10 rh rz r1 rs rf)) hC V ⟨(Nat.le_of_ble_eq_true rfl), (Nat.le_of_ble_eq_true rfl)⟩ (.inr ⟨(nI 3), rfl, rfl, (by decide +kernel), (wl_3 (R := R) (h_r i h_i) f_2 (by omega))⟩) dX6_whyNot_28

def q_t_passOn_f (T : Nat → ClassId) (fa : Nat → Int32) (R : Nat → Int64) (u0 : Nat) (a0 : Nat) (r0 : Nat) (tp : Int32) (ty : Int32) (tc : Int32) (an : Nat) (am : Int32) (al : Int32) (ao : Int32) (au : Int32) (a1 : Nat) (a2 : Nat) (a3 : Nat) (a4 : Nat) (a5 : Nat) (a6 : Nat) (a7 : Nat) (a8 : Nat) (a9 : Nat) (a10 : Nat) (af1 : Nat → Int32) (af2 : Nat → Int32) (af3 : Nat → Int32) (af4 : Nat → Int32) (af5 : Nat → Int32) (af6 : Nat → Int32) (af7 : Nat → Int32) (af8 : Nat → Int32) (af9 : Nat → Int32) (af10 : Nat → Int32) (rh : Int32) (rz : Nat) (r1 : Nat) (rs : Nat) (rf : Nat → Int64) : Option Value → va_W → Prop := fun rr ww => (∃ (z1 : Int32) (z2 : Int32) (z3 : Int32) (mm : Int32) (uu : Int32) (g3 : Nat → Int32) (g7 : Nat → Int32) (g8 : Nat → Int32) (g10 : Nat → Int32), rr = none ∧ ww = [(u0, .inr (6, [.int z1, .int z2, .int z3])), (a0, .inr (5, [.int (nI an), .int mm, .int al, .int ao, .int uu, .ref a1, .ref a2, .ref a3, .ref a4, .ref a5, .ref a6, .ref a7, .ref a8, .ref a9, .ref a10])), (a1, .inl (T 0, 10, .inl af1)), (a2, .inl (T 0, 10, .inl af2)), (a3, .inl (T 0, 10, .inl g3)), (a4, .inl (T 0, 10, .inl af4)), (a5, .inl (T 0, 10, .inl af5)), (a6, .inl (T 0, 10, .inl af6)), (a7, .inl (T 0, 10, .inl g7)), (a8, .inl (T 0, 10, .inl g8)), (a9, .inl (T 0, 10, .inl af9)), (a10, .inl (T 0, 10, .inl g10)), (r0, .inr (1, [.int rh, .int (nI rz), .ref r1, .int (nI rs)])), (r1, .inl (T 1, 40, .inr (.inl rf)))] ∧ z1 = nI ((tlE an fa R rz 42 0).1 / 2) ∧ z2 = (tlE an fa R rz 42 0).2 ∧ z3 = tlC an fa R (tlE an fa R rz 42 0).1 ∧ uu = au + tlB an fa R (tlE an fa R rz 42 0).1 ∧ SR an mm al ao af1 af2 g3 af4 af5 af6 g7 af9 (tlI an fa R (tlE an fa R rz 42 0).1))
set_option maxHeartbeats 4000000 in
set_option maxRecDepth 100000 in
theorem t_passOn_f (l : Launch) (D : va_G) (T : Nat → ClassId) (fa : Nat → Int32) (R : Nat → Int64) (u0 : Nat) (a0 : Nat) (r0 : Nat) (tp : Int32) (ty : Int32) (tc : Int32) (an : Nat) (am : Int32) (al : Int32) (ao : Int32) (au : Int32) (a1 : Nat) (a2 : Nat) (a3 : Nat) (a4 : Nat) (a5 : Nat) (a6 : Nat) (a7 : Nat) (a8 : Nat) (a9 : Nat) (a10 : Nat) (af1 : Nat → Int32) (af2 : Nat → Int32) (af3 : Nat → Int32) (af4 : Nat → Int32) (af5 : Nat → Int32) (af6 : Nat → Int32) (af7 : Nat → Int32) (af8 : Nat → Int32) (af9 : Nat → Int32) (af10 : Nat → Int32) (rh : Int32) (rz : Nat) (r1 : Nat) (rs : Nat) (rf : Nat → Int64) (h_n : an ≤ 10) (h_t : ∀ i, i < an → bd (af9 i) an) (h_z : rz ≤ 40) (h_sr : SR an am al ao af1 af2 af3 af4 af5 af6 af7 af9 fa) (h_a : MI an fa) (h_mn : bd (fa 1) 10000) (h_r : ∀ i, i < rz → rf i = R i) : Ct l yX6_passOn cX6_passOn 4 none 3 0 0 D T [.ref u0, .ref a0, .ref r0] [(u0, .inr (6, [.int tp, .int ty, .int tc])), (a0, .inr (5, [.int (nI an), .int am, .int al, .int ao, .int au, .ref a1, .ref a2, .ref a3, .ref a4, .ref a5, .ref a6, .ref a7, .ref a8, .ref a9, .ref a10])), (a1, .inl (T 0, 10, .inl af1)), (a2, .inl (T 0, 10, .inl af2)), (a3, .inl (T 0, 10, .inl af3)), (a4, .inl (T 0, 10, .inl af4)), (a5, .inl (T 0, 10, .inl af5)), (a6, .inl (T 0, 10, .inl af6)), (a7, .inl (T 0, 10, .inl af7)), (a8, .inl (T 0, 10, .inl af8)), (a9, .inl (T 0, 10, .inl af9)), (a10, .inl (T 0, 10, .inl af10)), (r0, .inr (1, [.int rh, .int (nI rz), .ref r1, .int (nI rs)])), (r1, .inl (T 1, 40, .inr (.inl rf)))] (q_t_passOn_f T fa R u0 a0 r0 tp ty tc an am al ao au a1 a2 a3 a4 a5 a6 a7 a8 a9 a10 af1 af2 af3 af4 af5 af6 af7 af8 af9 af10 rh rz r1 rs rf) := by
  refine Ct.of (cc := cX6_passOn) (maxL := 4) (ret := none) (by decide) (Nat.le_of_ble_eq_true rfl) ?_
  intro p e s m args below meth c A ls hC hnm V hl
  obtain ⟨hx, hb, hr, hml, hown, hts, hlocks⟩ := id hC
  generalize hH : s.heap = H at V ⊢
  clear hH
  have hl : lv_has ls 4 [(0, .ref u0), (1, .ref a0), (2, .ref r0)] := hl
  generalize hlo : ([] : List Loc) = locs at V ⊢
  clear hlo
  refine lv_aload_n hx hb dX6_passOn_0 rfl (lv_at hl 0 rfl) ?_
  refine lv_iconst (v := (nI 0)) hx hb dX6_passOn_1 (by decide +kernel) ?_
  refine g_put hC V (ci := 6) uwX6 tyX6 tyX6_ok nmX6 0 rfl rfl 0 (by decide) w_164 rfl rfl rfl rfl (Nat.le_of_ble_eq_true rfl) (ws' := [(u0, .inr (6, [.int (nI 0), .int ty, .int tc])), (a0, .inr (5, [.int (nI an), .int am, .int al, .int ao, .int au, .ref a1, .ref a2, .ref a3, .ref a4, .ref a5, .ref a6, .ref a7, .ref a8, .ref a9, .ref a10])), (a1, .inl (T 0, 10, .inl af1)), (a2, .inl (T 0, 10, .inl af2)), (a3, .inl (T 0, 10, .inl af3)), (a4, .inl (T 0, 10, .inl af4)), (a5, .inl (T 0, 10, .inl af5)), (a6, .inl (T 0, 10, .inl af6)), (a7, .inl (T 0, 10, .inl af7)), (a8, .inl (T 0, 10, .inl af8)), (a9, .inl (T 0, 10, .inl af9)), (a10, .inl (T 0, 10, .inl af10)), (r0, .inr (1, [.int rh, .int (nI rz), .ref r1, .int (nI rs)])), (r1, .inl (T 1, 40, .inr (.inl rf)))]) rfl dX6_passOn_2 (fun H locs V => ?_)
  refine lv_aload_n hx hb dX6_passOn_5 rfl (lv_at hl 0 rfl) ?_
  refine lv_iconst (v := (nI 0)) hx hb dX6_passOn_6 (by decide +kernel) ?_
  refine g_put hC V (ci := 6) uwX6 tyX6 tyX6_ok nmX6 0 rfl rfl 1 (by decide) w_166 rfl rfl rfl rfl (Nat.le_of_ble_eq_true rfl) (ws' := [(u0, .inr (6, [.int (nI 0), .int (nI 0), .int tc])), (a0, .inr (5, [.int (nI an), .int am, .int al, .int ao, .int au, .ref a1, .ref a2, .ref a3, .ref a4, .ref a5, .ref a6, .ref a7, .ref a8, .ref a9, .ref a10])), (a1, .inl (T 0, 10, .inl af1)), (a2, .inl (T 0, 10, .inl af2)), (a3, .inl (T 0, 10, .inl af3)), (a4, .inl (T 0, 10, .inl af4)), (a5, .inl (T 0, 10, .inl af5)), (a6, .inl (T 0, 10, .inl af6)), (a7, .inl (T 0, 10, .inl af7)), (a8, .inl (T 0, 10, .inl af8)), (a9, .inl (T 0, 10, .inl af9)), (a10, .inl (T 0, 10, .inl af10)), (r0, .inr (1, [.int rh, .int (nI rz), .ref r1, .int (nI rs)])), (r1, .inl (T 1, 40, .inr (.inl rf)))]) rfl dX6_passOn_7 (fun H locs V => ?_)
  refine lv_aload_n hx hb dX6_passOn_10 rfl (lv_at hl 0 rfl) ?_
  refine lv_iconst (v := (nI 0)) hx hb dX6_passOn_11 (by decide +kernel) ?_
  refine g_put hC V (ci := 6) uwX6 tyX6 tyX6_ok nmX6 0 rfl rfl 2 (by decide) w_168 rfl rfl rfl rfl (Nat.le_of_ble_eq_true rfl) (ws' := [(u0, .inr (6, [.int (nI 0), .int (nI 0), .int (nI 0)])), (a0, .inr (5, [.int (nI an), .int am, .int al, .int ao, .int au, .ref a1, .ref a2, .ref a3, .ref a4, .ref a5, .ref a6, .ref a7, .ref a8, .ref a9, .ref a10])), (a1, .inl (T 0, 10, .inl af1)), (a2, .inl (T 0, 10, .inl af2)), (a3, .inl (T 0, 10, .inl af3)), (a4, .inl (T 0, 10, .inl af4)), (a5, .inl (T 0, 10, .inl af5)), (a6, .inl (T 0, 10, .inl af6)), (a7, .inl (T 0, 10, .inl af7)), (a8, .inl (T 0, 10, .inl af8)), (a9, .inl (T 0, 10, .inl af9)), (a10, .inl (T 0, 10, .inl af10)), (r0, .inr (1, [.int rh, .int (nI rz), .ref r1, .int (nI rs)])), (r1, .inl (T 1, 40, .inr (.inl rf)))]) rfl dX6_passOn_12 (fun H locs V => ?_)
  refine lv_iconst (v := (nI 0)) hx hb dX6_passOn_15 (by decide +kernel) ?_
  refine lv_istore_n (lv' := [(3, .int (nI 0)), (0, .ref u0), (1, .ref a0), (2, .ref r0)]) hx hb dX6_passOn_16 rfl hl (by decide) rfl (fun ls hl => ?_)
  have L_1 : ∀ (fu : Nat) (k : Nat) (v1 : Int32) (v2 : Int32) (v3 : Int32) (mv : Int32) (uv : Int32) (ga : Nat → Int32) (gb : Nat → Int32) (gc : Nat → Int32) (gd : Nat → Int32), k ≤ rz + 1 → v1 = nI (k / 2) → v2 = nI 0 → v3 = tlC an fa R k → uv = au + tlB an fa R k → SR an mv al ao af1 af2 ga af4 af5 af6 gb af9 (tlI an fa R k) → bd (tlI an fa R k 1) 10000 → tlE an fa R rz 42 0 = tlE an fa R rz (42 - k) k → rz + 1 - k < fu → ∀ (H : Heap) (locs : List Loc) (ls : Array Slot), gW D T A s [(u0, .inr (6, [.int v1, .int v2, .int v3])), (a0, .inr (5, [.int (nI an), .int mv, .int al, .int ao, .int uv, .ref a1, .ref a2, .ref a3, .ref a4, .ref a5, .ref a6, .ref a7, .ref a8, .ref a9, .ref a10])), (a1, .inl (T 0, 10, .inl af1)), (a2, .inl (T 0, 10, .inl af2)), (a3, .inl (T 0, 10, .inl ga)), (a4, .inl (T 0, 10, .inl af4)), (a5, .inl (T 0, 10, .inl af5)), (a6, .inl (T 0, 10, .inl af6)), (a7, .inl (T 0, 10, .inl gb)), (a8, .inl (T 0, 10, .inl gc)), (a9, .inl (T 0, 10, .inl af9)), (a10, .inl (T 0, 10, .inl gd)), (r0, .inr (1, [.int rh, .int (nI rz), .ref r1, .int (nI rs)])), (r1, .inl (T 1, 40, .inr (.inl rf)))] H locs → lv_has ls 4 [(3, .int (nI k)), (0, .ref u0), (1, .ref a0), (2, .ref r0)] → W p l e (rmD 3 0 0) s m args below meth c H locs 0 0 (MQ below (gQ D A (q_t_passOn_f T fa R u0 a0 r0 tp ty tc an am al ao au a1 a2 a3 a4 a5 a6 a7 a8 a9 a10 af1 af2 af3 af4 af5 af6 af7 af8 af9 af10 rh rz r1 rs rf)) args s 0 0 A) (F0 m 17 ls []) := by
    intro fu_17
    induction fu_17 with
    | zero => intro k v1 v2 v3 mv uv ga gb gc gd hk hv1 hv2 hv3 huv hSR hmb hE hmu; exact absurd hmu (Nat.not_lt_zero _)
    | succ fu_17 ih_17 =>
      intro k v1 v2 v3 mv uv ga gb gc gd hk hv1 hv2 hv3 huv hSR hmb hE hmu_17 H locs ls V hl
      refine lv_iload_n hx hb dX6_passOn_17 rfl (lv_at hl 0 rfl) ?_
      refine lv_aload_n hx hb dX6_passOn_18 rfl (lv_at hl 3 rfl) ?_
      refine g_get hC V (ci := 1) uwX1 12 rfl rfl 1 (by decide) w_231 rfl rfl dX6_passOn_19 ?_
      refine lv_icmp_ge (tgt := 90) hx hb dX6_passOn_22 (by decide) (fun c_2 => ?_) (fun c_2 => ?_)
      · skip
        have c_2 := b_le (by omega) (by omega) c_2
        exact g_vret (Qr := (q_t_passOn_f T fa R u0 a0 r0 tp ty tc an am al ao au a1 a2 a3 a4 a5 a6 a7 a8 a9 a10 af1 af2 af3 af4 af5 af6 af7 af8 af9 af10 rh rz r1 rs rf)) hC V ⟨(Nat.le_of_ble_eq_true rfl), (Nat.le_of_ble_eq_true rfl)⟩ ⟨v1, v2, v3, mv, uv, ga, gb, gc, gd, rfl, rfl, (hv1.trans (congrArg (fun q : Nat × Int32 => nI (q.1 / 2)) (hE.trans (te_e (by omega)))).symm), (hv2.trans (congrArg Prod.snd (hE.trans (te_e (by omega)))).symm), (hv3.trans (congrArg (fun q : Nat × Int32 => tlC an fa R q.1) (hE.trans (te_e (by omega)))).symm), (huv.trans (congrArg (fun q : Nat × Int32 => au + tlB an fa R q.1) (hE.trans (te_e (by omega)))).symm), (by rw [(hE.trans (te_e (by omega)))]; exact hSR)⟩ dX6_passOn_90
      · skip
        have c_2 := b_nle (by omega) (by omega) c_2
        refine lv_aload_n hx hb dX6_passOn_25 rfl (lv_at hl 1 rfl) ?_
        refine lv_aload_n hx hb dX6_passOn_26 rfl (lv_at hl 2 rfl) ?_
        refine lv_aload_n hx hb dX6_passOn_27 rfl (lv_at hl 3 rfl) ?_
        refine lv_iload_n hx hb dX6_passOn_28 rfl (lv_at hl 0 rfl) ?_
        refine g_callSU (nA := 3) hC V hl.1 (t_whyNot_f l D T (tlI an fa R k) R a0 r0 k an mv al ao uv a1 a2 a3 a4 a5 a6 a7 a8 a9 a10 rh rz r1 rs rf (by first | assumption | omega) (by first | assumption | omega) (by first | assumption | omega) h_r hSR.2.1 hmb) w_508 w_509 w_5 w_510 (by decide +kernel) rfl ⟨(Nat.le_of_ble_eq_true rfl), (Nat.le_of_ble_eq_true rfl)⟩ [1, 12, 13] rfl rfl (Nat.le_of_ble_eq_true rfl) dX6_passOn_29 ⟨(Nat.le_of_ble_eq_true rfl), (Nat.le_of_ble_eq_true rfl)⟩ rfl (fun r w1 H locs hQ V => ?_)
        rcases hQ with ⟨rfl, rfl, f_3, f_4⟩ | ⟨z_5, rfl, rfl, f_6, f_7⟩
        · have V : gW D T A s [(u0, .inr (6, [.int v1, .int v2, .int v3])), (a0, .inr (5, [.int (nI an), .int mv, .int al, .int ao, .int uv, .ref a1, .ref a2, .ref a3, .ref a4, .ref a5, .ref a6, .ref a7, .ref a8, .ref a9, .ref a10])), (a1, .inl (T 0, 10, .inl af1)), (a2, .inl (T 0, 10, .inl af2)), (a3, .inl (T 0, 10, .inl ga)), (a4, .inl (T 0, 10, .inl af4)), (a5, .inl (T 0, 10, .inl af5)), (a6, .inl (T 0, 10, .inl af6)), (a7, .inl (T 0, 10, .inl gb)), (a8, .inl (T 0, 10, .inl gc)), (a9, .inl (T 0, 10, .inl af9)), (a10, .inl (T 0, 10, .inl gd)), (r0, .inr (1, [.int rh, .int (nI rz), .ref r1, .int (nI rs)])), (r1, .inl (T 1, 40, .inr (.inl rf)))] H locs := V _ [1, 10, 0] rfl rfl rfl (by decide +kernel) rfl
          show W p l e _ s m args below meth c H locs _ _ _ (F0 m 32 ls [.int (nI 0), .ref u0])
          have hw0 := f_4
          refine g_put hC V (ci := 6) uwX6 tyX6 tyX6_ok nmX6 0 rfl rfl 1 (by decide) w_166 rfl rfl rfl rfl (Nat.le_of_ble_eq_true rfl) (ws' := [(u0, .inr (6, [.int v1, .int (nI 0), .int v3])), (a0, .inr (5, [.int (nI an), .int mv, .int al, .int ao, .int uv, .ref a1, .ref a2, .ref a3, .ref a4, .ref a5, .ref a6, .ref a7, .ref a8, .ref a9, .ref a10])), (a1, .inl (T 0, 10, .inl af1)), (a2, .inl (T 0, 10, .inl af2)), (a3, .inl (T 0, 10, .inl ga)), (a4, .inl (T 0, 10, .inl af4)), (a5, .inl (T 0, 10, .inl af5)), (a6, .inl (T 0, 10, .inl af6)), (a7, .inl (T 0, 10, .inl gb)), (a8, .inl (T 0, 10, .inl gc)), (a9, .inl (T 0, 10, .inl af9)), (a10, .inl (T 0, 10, .inl gd)), (r0, .inr (1, [.int rh, .int (nI rz), .ref r1, .int (nI rs)])), (r1, .inl (T 1, 40, .inr (.inl rf)))]) rfl dX6_passOn_32 (fun H locs V => ?_)
          refine lv_aload_n hx hb dX6_passOn_35 rfl (lv_at hl 1 rfl) ?_
          refine g_get hC V (ci := 6) uwX6 0 rfl rfl 1 (by decide) w_166 rfl rfl dX6_passOn_36 ?_
          refine lv_if_eq (tgt := 43) hx hb dX6_passOn_39 (by decide) (fun _ => ?_) (fun c => absurd (show (nI 0) = 0 by decide +kernel) c)
          refine lv_aload_n hx hb dX6_passOn_43 rfl (lv_at hl 1 rfl) ?_
          refine lv_dup hx hb dX6_passOn_44 rfl ?_
          refine g_get hC V (ci := 6) uwX6 0 rfl rfl 2 (by decide) w_168 rfl rfl dX6_passOn_45 ?_
          refine lv_aload_n hx hb dX6_passOn_48 rfl (lv_at hl 2 rfl) ?_
          refine lv_aload_n hx hb dX6_passOn_49 rfl (lv_at hl 3 rfl) ?_
          refine g_get hC V (ci := 1) uwX1 12 rfl rfl 2 (by decide) w_235 rfl rfl dX6_passOn_50 ?_
          refine lv_iload_n hx hb dX6_passOn_53 rfl (lv_at hl 0 rfl) ?_
          refine g_lald hC V 13 rfl (vp_in_nI (by omega) (by omega)) (v := (rf k)) (congrArg _ (nI_clamp (by omega))) dX6_passOn_54 ?_
          refine lv_l2i hx hb dX6_passOn_55 rfl ?_
          refine lv_aload_n hx hb dX6_passOn_56 rfl (lv_at hl 3 rfl) ?_
          refine g_get hC V (ci := 1) uwX1 12 rfl rfl 2 (by decide) w_235 rfl rfl dX6_passOn_57 ?_
          refine lv_iload_n hx hb dX6_passOn_60 rfl (lv_at hl 0 rfl) ?_
          refine lv_iconst (v := (nI 1)) hx hb dX6_passOn_61 (by decide +kernel) ?_
          refine lv_iadd hx hb dX6_passOn_62 ?_
          refine g_vi (y := (nI (k + 1))) (nI_add _ _) ?_
          refine g_lald hC V 13 rfl (vp_in_nI (by omega) (by omega)) (v := (rf (k + 1))) (congrArg _ (nI_clamp (by omega))) dX6_passOn_63 ?_
          refine lv_l2i hx hb dX6_passOn_64 rfl ?_
          refine lv_iconst (v := (-1)) hx hb dX6_passOn_65 (by decide +kernel) ?_
          refine lv_iconst (v := (nI 0)) hx hb dX6_passOn_66 (by decide +kernel) ?_
          refine g_callVU (nA := 4) hC V hl.1 (s_pass_f l D T (tlI an fa R k) a0 ((rf k).toInt32) ((rf (k + 1)).toInt32) (-1) (nI 0) an mv al ao uv a1 a2 a3 a4 a5 a6 a7 a8 a9 a10 af1 af2 ga af4 af5 af6 gb gc af9 gd h_n h_t (fun i hi => (hSR.2.2.2.2 i hi).1) (fun i hi => (hSR.2.2.2.2 i hi).2.1) (fun i hi => (hSR.2.2.2.2 i hi).2.2.1) (fun i hi => (hSR.2.2.2.2 i hi).2.2.2.1) (fun i hi => (hSR.2.2.2.2 i hi).2.2.2.2.1) (fun i hi => (hSR.2.2.2.2 i hi).2.2.2.2.2.1) (fun i hi => (hSR.2.2.2.2 i hi).2.2.2.2.2.2.1) (fun i hi => (hSR.2.2.2.2 i hi).2.2.2.2.2.2.2) hSR.2.2.1.symm (tlI_mi h_a _)) w_515 w_467 w_468 w_3 w_469 (by decide +kernel) rfl ⟨(Nat.le_of_ble_eq_true rfl), (Nat.le_of_ble_eq_true rfl)⟩ 1 (ci := 5) rfl rfl [1, 2, 3, 4, 5, 6, 7, 8, 9, 10, 11] rfl rfl (Nat.le_of_ble_eq_true rfl) dX6_passOn_67 ⟨(Nat.le_of_ble_eq_true rfl), (Nat.le_of_ble_eq_true rfl)⟩ rfl (fun r w1 H locs hQ V => ?_)
          obtain ⟨z_8, u_9, g3_10, g7_11, g8_12, g10_13, rfl, rfl, f_14, f_15, f_16, f_17⟩ := hQ
          have V : gW D T A s [(u0, .inr (6, [.int v1, .int (nI 0), .int v3])), (a0, .inr (5, [.int (nI an), .int (mv + (nI 1)), .int al, .int ao, .int u_9, .ref a1, .ref a2, .ref a3, .ref a4, .ref a5, .ref a6, .ref a7, .ref a8, .ref a9, .ref a10])), (a1, .inl (T 0, 10, .inl af1)), (a2, .inl (T 0, 10, .inl af2)), (a3, .inl (T 0, 10, .inl g3_10)), (a4, .inl (T 0, 10, .inl af4)), (a5, .inl (T 0, 10, .inl af5)), (a6, .inl (T 0, 10, .inl af6)), (a7, .inl (T 0, 10, .inl g7_11)), (a8, .inl (T 0, 10, .inl g8_12)), (a9, .inl (T 0, 10, .inl af9)), (a10, .inl (T 0, 10, .inl g10_13)), (r0, .inr (1, [.int rh, .int (nI rz), .ref r1, .int (nI rs)])), (r1, .inl (T 1, 40, .inr (.inl rf)))] H locs := V _ [1, 0, 0, 0, 0, 0, 0, 0, 0, 0, 0] rfl rfl rfl (by decide +kernel) rfl
          show W p l e _ s m args below meth c H locs _ _ _ (F0 m 70 ls [.int z_8, .int v3, .ref u0])
          refine lv_iadd hx hb dX6_passOn_70 ?_
          refine g_put hC V (ci := 6) uwX6 tyX6 tyX6_ok nmX6 0 rfl rfl 2 (by decide) w_168 rfl rfl rfl rfl (Nat.le_of_ble_eq_true rfl) (ws' := [(u0, .inr (6, [.int v1, .int (nI 0), .int (v3 + z_8)])), (a0, .inr (5, [.int (nI an), .int (mv + (nI 1)), .int al, .int ao, .int u_9, .ref a1, .ref a2, .ref a3, .ref a4, .ref a5, .ref a6, .ref a7, .ref a8, .ref a9, .ref a10])), (a1, .inl (T 0, 10, .inl af1)), (a2, .inl (T 0, 10, .inl af2)), (a3, .inl (T 0, 10, .inl g3_10)), (a4, .inl (T 0, 10, .inl af4)), (a5, .inl (T 0, 10, .inl af5)), (a6, .inl (T 0, 10, .inl af6)), (a7, .inl (T 0, 10, .inl g7_11)), (a8, .inl (T 0, 10, .inl g8_12)), (a9, .inl (T 0, 10, .inl af9)), (a10, .inl (T 0, 10, .inl g10_13)), (r0, .inr (1, [.int rh, .int (nI rz), .ref r1, .int (nI rs)])), (r1, .inl (T 1, 40, .inr (.inl rf)))]) rfl dX6_passOn_71 (fun H locs V => ?_)
          refine lv_aload_n hx hb dX6_passOn_74 rfl (lv_at hl 1 rfl) ?_
          refine lv_dup hx hb dX6_passOn_75 rfl ?_
          refine g_get hC V (ci := 6) uwX6 0 rfl rfl 0 (by decide) w_164 rfl rfl dX6_passOn_76 ?_
          refine lv_iconst (v := (nI 1)) hx hb dX6_passOn_79 (by decide +kernel) ?_
          refine lv_iadd hx hb dX6_passOn_80 ?_
          refine g_put hC V (ci := 6) uwX6 tyX6 tyX6_ok nmX6 0 rfl rfl 0 (by decide) w_164 rfl rfl rfl rfl (Nat.le_of_ble_eq_true rfl) (ws' := [(u0, .inr (6, [.int (v1 + (nI 1)), .int (nI 0), .int (v3 + z_8)])), (a0, .inr (5, [.int (nI an), .int (mv + (nI 1)), .int al, .int ao, .int u_9, .ref a1, .ref a2, .ref a3, .ref a4, .ref a5, .ref a6, .ref a7, .ref a8, .ref a9, .ref a10])), (a1, .inl (T 0, 10, .inl af1)), (a2, .inl (T 0, 10, .inl af2)), (a3, .inl (T 0, 10, .inl g3_10)), (a4, .inl (T 0, 10, .inl af4)), (a5, .inl (T 0, 10, .inl af5)), (a6, .inl (T 0, 10, .inl af6)), (a7, .inl (T 0, 10, .inl g7_11)), (a8, .inl (T 0, 10, .inl g8_12)), (a9, .inl (T 0, 10, .inl af9)), (a10, .inl (T 0, 10, .inl g10_13)), (r0, .inr (1, [.int rh, .int (nI rz), .ref r1, .int (nI rs)])), (r1, .inl (T 1, 40, .inr (.inl rf)))]) rfl dX6_passOn_81 (fun H locs V => ?_)
          refine lv_iinc (v := (nI (k + 2))) (lv' := [(3, .int (nI (k + 2))), (0, .ref u0), (1, .ref a0), (2, .ref r0)]) hx hb dX6_passOn_84 hl (k := 0) rfl (nI_add _ 2) (by decide) rfl (fun ls hl => ?_)
          refine lv_goto (tgt := 17) hx hb dX6_passOn_87 (by decide) ?_
          exact ih_17 (k + 2) (v1 + (nI 1)) (nI 0) (v3 + z_8) (mv + (nI 1)) u_9 g3_10 g7_11 g8_12 g10_13 (by omega) (by rw [hv1]; exact (nI_add _ 1).trans (congrArg nI (by omega))) rfl (by have q := f_14; rw [h_r (k + 1) (by omega)] at q; rw [hv3, q]; rfl) (by have q := f_17; rw [h_r k (by omega), h_r (k + 1) (by omega), huv] at q; rw [q]; exact Int32.add_assoc _ _ _) (by have q := SR_go h_n hSR f_15 f_16; rw [h_r k (by omega), h_r (k + 1) (by omega)] at q; exact q) (mn_go hmb (wl_9 hw0)) (hE.trans (te_s (by omega) h_z hw0)) (by omega) _ _ _ V (lv_sub hl [0, 1, 2, 3] rfl)
        · have V : gW D T A s [(u0, .inr (6, [.int v1, .int v2, .int v3])), (a0, .inr (5, [.int (nI an), .int mv, .int al, .int ao, .int uv, .ref a1, .ref a2, .ref a3, .ref a4, .ref a5, .ref a6, .ref a7, .ref a8, .ref a9, .ref a10])), (a1, .inl (T 0, 10, .inl af1)), (a2, .inl (T 0, 10, .inl af2)), (a3, .inl (T 0, 10, .inl ga)), (a4, .inl (T 0, 10, .inl af4)), (a5, .inl (T 0, 10, .inl af5)), (a6, .inl (T 0, 10, .inl af6)), (a7, .inl (T 0, 10, .inl gb)), (a8, .inl (T 0, 10, .inl gc)), (a9, .inl (T 0, 10, .inl af9)), (a10, .inl (T 0, 10, .inl gd)), (r0, .inr (1, [.int rh, .int (nI rz), .ref r1, .int (nI rs)])), (r1, .inl (T 1, 40, .inr (.inl rf)))] H locs := V _ [1, 10, 0] rfl rfl rfl (by decide +kernel) rfl
          show W p l e _ s m args below meth c H locs _ _ _ (F0 m 32 ls [.int z_5, .ref u0])
          have hw1 := f_7
          have hw2 := f_6
          refine g_put hC V (ci := 6) uwX6 tyX6 tyX6_ok nmX6 0 rfl rfl 1 (by decide) w_166 rfl rfl rfl rfl (Nat.le_of_ble_eq_true rfl) (ws' := [(u0, .inr (6, [.int v1, .int z_5, .int v3])), (a0, .inr (5, [.int (nI an), .int mv, .int al, .int ao, .int uv, .ref a1, .ref a2, .ref a3, .ref a4, .ref a5, .ref a6, .ref a7, .ref a8, .ref a9, .ref a10])), (a1, .inl (T 0, 10, .inl af1)), (a2, .inl (T 0, 10, .inl af2)), (a3, .inl (T 0, 10, .inl ga)), (a4, .inl (T 0, 10, .inl af4)), (a5, .inl (T 0, 10, .inl af5)), (a6, .inl (T 0, 10, .inl af6)), (a7, .inl (T 0, 10, .inl gb)), (a8, .inl (T 0, 10, .inl gc)), (a9, .inl (T 0, 10, .inl af9)), (a10, .inl (T 0, 10, .inl gd)), (r0, .inr (1, [.int rh, .int (nI rz), .ref r1, .int (nI rs)])), (r1, .inl (T 1, 40, .inr (.inl rf)))]) rfl dX6_passOn_32 (fun H locs V => ?_)
          refine lv_aload_n hx hb dX6_passOn_35 rfl (lv_at hl 1 rfl) ?_
          refine g_get hC V (ci := 6) uwX6 0 rfl rfl 1 (by decide) w_166 rfl rfl dX6_passOn_36 ?_
          refine lv_if_eq (tgt := 43) hx hb dX6_passOn_39 (by decide) (fun c_18 => ?_) (fun c_18 => ?_)
          · skip
            exact (absurd c_18 (by assumption) : False).elim
          · skip
            exact g_vret (Qr := (q_t_passOn_f T fa R u0 a0 r0 tp ty tc an am al ao au a1 a2 a3 a4 a5 a6 a7 a8 a9 a10 af1 af2 af3 af4 af5 af6 af7 af8 af9 af10 rh rz r1 rs rf)) hC V ⟨(Nat.le_of_ble_eq_true rfl), (Nat.le_of_ble_eq_true rfl)⟩ ⟨v1, z_5, v3, mv, uv, ga, gb, gc, gd, rfl, rfl, (hv1.trans (congrArg (fun q : Nat × Int32 => nI (q.1 / 2)) (hE.trans (te_w (by omega) h_z hw1 hw2))).symm), (congrArg Prod.snd (hE.trans (te_w (by omega) h_z hw1 hw2))).symm, (hv3.trans (congrArg (fun q : Nat × Int32 => tlC an fa R q.1) (hE.trans (te_w (by omega) h_z hw1 hw2))).symm), (huv.trans (congrArg (fun q : Nat × Int32 => au + tlB an fa R q.1) (hE.trans (te_w (by omega) h_z hw1 hw2))).symm), (by rw [(hE.trans (te_w (by omega) h_z hw1 hw2))]; exact hSR)⟩ dX6_passOn_42
  exact L_1 _ 0 (nI 0) (nI 0) (nI 0) am au af3 af7 af8 af10 (by omega) rfl rfl rfl (add_n0 _) h_sr h_mn rfl (Nat.lt_succ_self _) _ _ _ V (lv_sub hl [0, 1, 2, 3] rfl)
