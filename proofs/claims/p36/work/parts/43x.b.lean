def q_s_inRing_f (T : Nat → ClassId) (fa : Nat → Int32) (a0 : Nat) (j : Nat) (an : Nat) (am : Int32) (al : Int32) (ao : Int32) (au : Int32) (a1 : Nat) (a2 : Nat) (a3 : Nat) (a4 : Nat) (a5 : Nat) (a6 : Nat) (a7 : Nat) (a8 : Nat) (a9 : Nat) (a10 : Nat) (af9 : Nat → Int32) : Option Value → va_W → Prop := fun rr ww => (∃ (r : Nat), rr = some (.int (nI r)) ∧ ww = [(a0, .inr (5, [.int (nI an), .int am, .int al, .int ao, .int au, .ref a1, .ref a2, .ref a3, .ref a4, .ref a5, .ref a6, .ref a7, .ref a8, .ref a9, .ref a10])), (a9, .inl (T 0, 10, .inl af9))] ∧ (r = ledF fa j an ∧ r < an))
set_option maxHeartbeats 4000000 in
set_option maxRecDepth 100000 in
theorem s_inRing_f (l : Launch) (D : va_G) (T : Nat → ClassId) (fa : Nat → Int32) (a0 : Nat) (j : Nat) (an : Nat) (am : Int32) (al : Int32) (ao : Int32) (au : Int32) (a1 : Nat) (a2 : Nat) (a3 : Nat) (a4 : Nat) (a5 : Nat) (a6 : Nat) (a7 : Nat) (a8 : Nat) (a9 : Nat) (a10 : Nat) (af9 : Nat → Int32) (h_n : an ≤ 10) (h_t : ∀ i, i < an → bd (af9 i) an) (h_j : j < an) (h_s9 : ∀ i, i < an → af9 i = fa (84 + i)) : Ct l yX5_inRing cX5_inRing 4 (some .int) 0 0 0 D T [.ref a0, .int (nI j)] [(a0, .inr (5, [.int (nI an), .int am, .int al, .int ao, .int au, .ref a1, .ref a2, .ref a3, .ref a4, .ref a5, .ref a6, .ref a7, .ref a8, .ref a9, .ref a10])), (a9, .inl (T 0, 10, .inl af9))] (q_s_inRing_f T fa a0 j an am al ao au a1 a2 a3 a4 a5 a6 a7 a8 a9 a10 af9) := by
  refine Ct.of (cc := cX5_inRing) (maxL := 4) (ret := (some .int)) (by decide) (Nat.le_of_ble_eq_true rfl) ?_
  intro p e s m args below meth c A ls hC hnm V hl
  obtain ⟨hx, hb, hr, hml, hown, hts, hlocks⟩ := id hC
  generalize hH : s.heap = H at V ⊢
  clear hH
  have hl : lv_has ls 4 [(0, .ref a0), (1, .int (nI j))] := hl
  generalize hlo : ([] : List Loc) = locs at V ⊢
  clear hlo
  refine lv_iload_n hx hb dX5_inRing_0 rfl (lv_at hl 1 rfl) ?_
  refine lv_istore_n (lv' := [(2, .int (nI j)), (0, .ref a0), (1, .int (nI j))]) hx hb dX5_inRing_1 rfl hl (by decide) rfl (fun ls hl => ?_)
  refine lv_iconst (v := (nI 0)) hx hb dX5_inRing_2 (by decide +kernel) ?_
  refine lv_istore_n (lv' := [(3, .int (nI 0)), (2, .int (nI j)), (0, .ref a0), (1, .int (nI j))]) hx hb dX5_inRing_3 rfl hl (by decide) rfl (fun ls hl => ?_)
  have L_1 : ∀ (fu : Nat) (k4 : Nat) (at_ : Nat), k4 ≤ an → (at_ = ledF fa j k4 ∧ at_ < an) → an - k4 < fu → ∀ (H : Heap) (locs : List Loc) (ls : Array Slot), gW D T A s [(a0, .inr (5, [.int (nI an), .int am, .int al, .int ao, .int au, .ref a1, .ref a2, .ref a3, .ref a4, .ref a5, .ref a6, .ref a7, .ref a8, .ref a9, .ref a10])), (a9, .inl (T 0, 10, .inl af9))] H locs → lv_has ls 4 [(3, .int (nI k4)), (2, .int (nI at_)), (0, .ref a0), (1, .int (nI j))] → W p l e (rmD 0 0 0) s m args below meth c H locs 0 0 (MQ below (gQ D A (q_s_inRing_f T fa a0 j an am al ao au a1 a2 a3 a4 a5 a6 a7 a8 a9 a10 af9)) args s 0 0 A) (F0 m 4 ls []) := by
    intro fu_4
    induction fu_4 with
    | zero => intro k4 at_ hk4 hat hmu; exact absurd hmu (Nat.not_lt_zero _)
    | succ fu_4 ih_4 =>
      intro k4 at_ hk4 hat hmu_4 H locs ls V hl
      refine lv_iload_n hx hb dX5_inRing_4 rfl (lv_at hl 0 rfl) ?_
      refine lv_aload_n hx hb dX5_inRing_5 rfl (lv_at hl 2 rfl) ?_
      refine g_get hC V (ci := 5) uwX5 0 rfl rfl 0 (by decide) w_33 rfl rfl dX5_inRing_6 ?_
      refine lv_icmp_ge (tgt := 25) hx hb dX5_inRing_9 (by decide) (fun c_2 => ?_) (fun c_2 => ?_)
      · skip
        have c_2 := b_le (by omega) (by omega) c_2
        refine lv_iload_n hx hb dX5_inRing_25 rfl (lv_at hl 1 rfl) ?_
        exact g_iret (Qr := (q_s_inRing_f T fa a0 j an am al ao au a1 a2 a3 a4 a5 a6 a7 a8 a9 a10 af9)) hC V ⟨(Nat.le_of_ble_eq_true rfl), (Nat.le_of_ble_eq_true rfl)⟩ ⟨at_, rfl, rfl, (led_end hat (by omega))⟩ dX5_inRing_26
      · skip
        have c_2 := b_nle (by omega) (by omega) c_2
        refine lv_aload_n hx hb dX5_inRing_12 rfl (lv_at hl 2 rfl) ?_
        refine g_get hC V (ci := 5) uwX5 0 rfl rfl 13 (by decide) w_82 rfl rfl dX5_inRing_13 ?_
        refine lv_iload_n hx hb dX5_inRing_16 rfl (lv_at hl 1 rfl) ?_
        obtain ⟨j_3, hj_3, ej_3⟩ := bd_ex (h_t at_ (by omega))
        refine g_iald hC V 1 rfl (vp_in_nI (by omega) (by omega)) (v := (nI j_3)) (by rw [nI_clamp (by omega)]; exact ej_3) dX5_inRing_17 ?_
        refine lv_istore_n (lv' := [(2, .int (nI j_3)), (3, .int (nI k4)), (0, .ref a0), (1, .int (nI j))]) hx hb dX5_inRing_18 rfl hl (by decide) rfl (fun ls hl => ?_)
        refine lv_iinc (v := (nI (k4 + 1))) (lv' := [(3, .int (nI (k4 + 1))), (2, .int (nI j_3)), (0, .ref a0), (1, .int (nI j))]) hx hb dX5_inRing_19 hl (k := 1) rfl (nI_1 _) (by decide) rfl (fun ls hl => ?_)
        refine lv_goto (tgt := 4) hx hb dX5_inRing_22 (by decide) ?_
        exact ih_4 (k4 + 1) j_3 (by omega) (led_nx hat ((h_s9 at_ hat.2).symm.trans ej_3) (by omega) h_n) (by omega) _ _ _ V (lv_sub hl [0, 1, 2, 3] rfl)
  exact L_1 _ 0 j (by omega) ⟨rfl, h_j⟩ (Nat.lt_succ_self _) _ _ _ V (lv_sub hl [0, 1, 2, 3] rfl)

def q_s_ringLength_f (T : Nat → ClassId) (fa : Nat → Int32) (a0 : Nat) (j : Nat) (an : Nat) (am : Int32) (al : Int32) (ao : Int32) (au : Int32) (a1 : Nat) (a2 : Nat) (a3 : Nat) (a4 : Nat) (a5 : Nat) (a6 : Nat) (a7 : Nat) (a8 : Nat) (a9 : Nat) (a10 : Nat) (af9 : Nat → Int32) : Option Value → va_W → Prop := fun rr ww => (∃ (r : Nat), rr = some (.int (nI r)) ∧ ww = [(a0, .inr (5, [.int (nI an), .int am, .int al, .int ao, .int au, .ref a1, .ref a2, .ref a3, .ref a4, .ref a5, .ref a6, .ref a7, .ref a8, .ref a9, .ref a10])), (a9, .inl (T 0, 10, .inl af9))] ∧ r = pgG fa j (an - 1) 1)
set_option maxHeartbeats 4000000 in
set_option maxRecDepth 100000 in
theorem s_ringLength_f (l : Launch) (D : va_G) (T : Nat → ClassId) (fa : Nat → Int32) (a0 : Nat) (j : Nat) (an : Nat) (am : Int32) (al : Int32) (ao : Int32) (au : Int32) (a1 : Nat) (a2 : Nat) (a3 : Nat) (a4 : Nat) (a5 : Nat) (a6 : Nat) (a7 : Nat) (a8 : Nat) (a9 : Nat) (a10 : Nat) (af9 : Nat → Int32) (h_n : an ≤ 10) (h_t : ∀ i, i < an → bd (af9 i) an) (h_j : j < an) (h_s9 : ∀ i, i < an → af9 i = fa (84 + i)) : Ct l yX5_ringLength cX5_ringLength 4 (some .int) 0 0 0 D T [.ref a0, .int (nI j)] [(a0, .inr (5, [.int (nI an), .int am, .int al, .int ao, .int au, .ref a1, .ref a2, .ref a3, .ref a4, .ref a5, .ref a6, .ref a7, .ref a8, .ref a9, .ref a10])), (a9, .inl (T 0, 10, .inl af9))] (q_s_ringLength_f T fa a0 j an am al ao au a1 a2 a3 a4 a5 a6 a7 a8 a9 a10 af9) := by
  refine Ct.of (cc := cX5_ringLength) (maxL := 4) (ret := (some .int)) (by decide) (Nat.le_of_ble_eq_true rfl) ?_
  intro p e s m args below meth c A ls hC hnm V hl
  obtain ⟨hx, hb, hr, hml, hown, hts, hlocks⟩ := id hC
  generalize hH : s.heap = H at V ⊢
  clear hH
  have hl : lv_has ls 4 [(0, .ref a0), (1, .int (nI j))] := hl
  generalize hlo : ([] : List Loc) = locs at V ⊢
  clear hlo
  refine lv_aload_n hx hb dX5_ringLength_0 rfl (lv_at hl 0 rfl) ?_
  refine g_get hC V (ci := 5) uwX5 0 rfl rfl 13 (by decide) w_82 rfl rfl dX5_ringLength_1 ?_
  refine lv_iload_n hx hb dX5_ringLength_4 rfl (lv_at hl 1 rfl) ?_
  obtain ⟨j_1, hj_1, ej_1⟩ := bd_ex (h_t j (by omega))
  refine g_iald hC V 1 rfl (vp_in_nI (by omega) (by omega)) (v := (nI j_1)) (by rw [nI_clamp (by omega)]; exact ej_1) dX5_ringLength_5 ?_
  refine lv_istore_n (lv' := [(2, .int (nI j_1)), (0, .ref a0), (1, .int (nI j))]) hx hb dX5_ringLength_6 rfl hl (by decide) rfl (fun ls hl => ?_)
  refine lv_iconst (v := (nI 1)) hx hb dX5_ringLength_7 (by decide +kernel) ?_
  refine lv_istore_n (lv' := [(3, .int (nI 1)), (2, .int (nI j_1)), (0, .ref a0), (1, .int (nI j))]) hx hb dX5_ringLength_8 rfl hl (by decide) rfl (fun ls hl => ?_)
  have L_2 : ∀ (fu : Nat) (k9 : Nat) (at_ : Nat), k9 ≤ an → (at_ = ledF fa j k9 ∧ at_ < an) → pgG fa j (an - 1) 1 = pgG fa j (an - k9) k9 → an - k9 < fu → ∀ (H : Heap) (locs : List Loc) (ls : Array Slot), gW D T A s [(a0, .inr (5, [.int (nI an), .int am, .int al, .int ao, .int au, .ref a1, .ref a2, .ref a3, .ref a4, .ref a5, .ref a6, .ref a7, .ref a8, .ref a9, .ref a10])), (a9, .inl (T 0, 10, .inl af9))] H locs → lv_has ls 4 [(3, .int (nI k9)), (2, .int (nI at_)), (0, .ref a0), (1, .int (nI j))] → W p l e (rmD 0 0 0) s m args below meth c H locs 0 0 (MQ below (gQ D A (q_s_ringLength_f T fa a0 j an am al ao au a1 a2 a3 a4 a5 a6 a7 a8 a9 a10 af9)) args s 0 0 A) (F0 m 9 ls []) := by
    intro fu_9
    induction fu_9 with
    | zero => intro k9 at_ hk9 hat hE hmu; exact absurd hmu (Nat.not_lt_zero _)
    | succ fu_9 ih_9 =>
      intro k9 at_ hk9 hat hE hmu_9 H locs ls V hl
      refine lv_iload_n hx hb dX5_ringLength_9 rfl (lv_at hl 1 rfl) ?_
      refine lv_iload_n hx hb dX5_ringLength_10 rfl (lv_at hl 3 rfl) ?_
      refine lv_icmp_eq (tgt := 35) hx hb dX5_ringLength_11 (by decide) (fun c_3 => ?_) (fun c_3 => ?_)
      · skip
        have c_3 := b_eq (by omega) (by omega) c_3
        have heq : ledF fa j k9 = j := hat.1.symm.trans c_3
        refine lv_iload_n hx hb dX5_ringLength_35 rfl (lv_at hl 0 rfl) ?_
        exact g_iret (Qr := (q_s_ringLength_f T fa a0 j an am al ao au a1 a2 a3 a4 a5 a6 a7 a8 a9 a10 af9)) hC V ⟨(Nat.le_of_ble_eq_true rfl), (Nat.le_of_ble_eq_true rfl)⟩ ⟨k9, rfl, rfl, (hE.trans (pg_d heq _)).symm⟩ dX5_ringLength_36
      · skip
        have c_3 := b_ne (by omega) (by omega) c_3
        have hne : ledF fa j k9 ≠ j := fun q => c_3 (hat.1.trans q)
        refine lv_iload_n hx hb dX5_ringLength_14 rfl (lv_at hl 0 rfl) ?_
        refine lv_aload_n hx hb dX5_ringLength_15 rfl (lv_at hl 2 rfl) ?_
        refine g_get hC V (ci := 5) uwX5 0 rfl rfl 0 (by decide) w_33 rfl rfl dX5_ringLength_16 ?_
        refine lv_icmp_ge (tgt := 35) hx hb dX5_ringLength_19 (by decide) (fun c_4 => ?_) (fun c_4 => ?_)
        · skip
          have c_4 := b_le (by omega) (by omega) c_4
          refine lv_iload_n hx hb dX5_ringLength_35 rfl (lv_at hl 0 rfl) ?_
          exact g_iret (Qr := (q_s_ringLength_f T fa a0 j an am al ao au a1 a2 a3 a4 a5 a6 a7 a8 a9 a10 af9)) hC V ⟨(Nat.le_of_ble_eq_true rfl), (Nat.le_of_ble_eq_true rfl)⟩ ⟨k9, rfl, rfl, (hE.trans (pg_e (by omega))).symm⟩ dX5_ringLength_36
        · skip
          have c_4 := b_nle (by omega) (by omega) c_4
          refine lv_aload_n hx hb dX5_ringLength_22 rfl (lv_at hl 2 rfl) ?_
          refine g_get hC V (ci := 5) uwX5 0 rfl rfl 13 (by decide) w_82 rfl rfl dX5_ringLength_23 ?_
          refine lv_iload_n hx hb dX5_ringLength_26 rfl (lv_at hl 1 rfl) ?_
          obtain ⟨j_5, hj_5, ej_5⟩ := bd_ex (h_t at_ (by omega))
          refine g_iald hC V 1 rfl (vp_in_nI (by omega) (by omega)) (v := (nI j_5)) (by rw [nI_clamp (by omega)]; exact ej_5) dX5_ringLength_27 ?_
          refine lv_istore_n (lv' := [(2, .int (nI j_5)), (3, .int (nI k9)), (0, .ref a0), (1, .int (nI j))]) hx hb dX5_ringLength_28 rfl hl (by decide) rfl (fun ls hl => ?_)
          refine lv_iinc (v := (nI (k9 + 1))) (lv' := [(3, .int (nI (k9 + 1))), (2, .int (nI j_5)), (0, .ref a0), (1, .int (nI j))]) hx hb dX5_ringLength_29 hl (k := 1) rfl (nI_1 _) (by decide) rfl (fun ls hl => ?_)
          refine lv_goto (tgt := 9) hx hb dX5_ringLength_32 (by decide) ?_
          exact ih_9 (k9 + 1) j_5 (by omega) (led_nx hat ((h_s9 at_ hat.2).symm.trans ej_5) (by omega) h_n) (hE.trans (pg_s (by omega) hne)) (by omega) _ _ _ V (lv_sub hl [0, 1, 2, 3] rfl)
  exact L_2 _ 1 j_1 (by omega) (led_nx ⟨rfl, h_j⟩ ((h_s9 j h_j).symm.trans ej_1) (by omega) h_n) rfl (Nat.lt_succ_self _) _ _ _ V (lv_sub hl [0, 1, 2, 3] rfl)

def q_s_isLeast_f (T : Nat → ClassId) (fa : Nat → Int32) (a0 : Nat) (j : Nat) (an : Nat) (am : Int32) (al : Int32) (ao : Int32) (au : Int32) (a1 : Nat) (a2 : Nat) (a3 : Nat) (a4 : Nat) (a5 : Nat) (a6 : Nat) (a7 : Nat) (a8 : Nat) (a9 : Nat) (a10 : Nat) (af9 : Nat → Int32) : Option Value → va_W → Prop := fun rr ww => (rr = some (.int (nI 1)) ∧ ww = [(a0, .inr (5, [.int (nI an), .int am, .int al, .int ao, .int au, .ref a1, .ref a2, .ref a3, .ref a4, .ref a5, .ref a6, .ref a7, .ref a8, .ref a9, .ref a10])), (a9, .inl (T 0, 10, .inl af9))] ∧ lrP fa j) ∨ (rr = some (.int (nI 0)) ∧ ww = [(a0, .inr (5, [.int (nI an), .int am, .int al, .int ao, .int au, .ref a1, .ref a2, .ref a3, .ref a4, .ref a5, .ref a6, .ref a7, .ref a8, .ref a9, .ref a10])), (a9, .inl (T 0, 10, .inl af9))] ∧ ¬ lrP fa j)
set_option maxHeartbeats 4000000 in
set_option maxRecDepth 100000 in
theorem s_isLeast_f (l : Launch) (D : va_G) (T : Nat → ClassId) (fa : Nat → Int32) (a0 : Nat) (j : Nat) (an : Nat) (am : Int32) (al : Int32) (ao : Int32) (au : Int32) (a1 : Nat) (a2 : Nat) (a3 : Nat) (a4 : Nat) (a5 : Nat) (a6 : Nat) (a7 : Nat) (a8 : Nat) (a9 : Nat) (a10 : Nat) (af9 : Nat → Int32) (h_n : an ≤ 10) (h_t : ∀ i, i < an → bd (af9 i) an) (h_j : j < an) (h_s9 : ∀ i, i < an → af9 i = fa (84 + i)) (h_a : MI an fa) : Ct l yX5_isLeastOfRing cX5_isLeastOfRing 4 (some .boolean) 0 0 0 D T [.ref a0, .int (nI j)] [(a0, .inr (5, [.int (nI an), .int am, .int al, .int ao, .int au, .ref a1, .ref a2, .ref a3, .ref a4, .ref a5, .ref a6, .ref a7, .ref a8, .ref a9, .ref a10])), (a9, .inl (T 0, 10, .inl af9))] (q_s_isLeast_f T fa a0 j an am al ao au a1 a2 a3 a4 a5 a6 a7 a8 a9 a10 af9) := by
  refine Ct.of (cc := cX5_isLeastOfRing) (maxL := 4) (ret := (some .boolean)) (by decide) (Nat.le_of_ble_eq_true rfl) ?_
  intro p e s m args below meth c A ls hC hnm V hl
  obtain ⟨hx, hb, hr, hml, hown, hts, hlocks⟩ := id hC
  generalize hH : s.heap = H at V ⊢
  clear hH
  have hl : lv_has ls 4 [(0, .ref a0), (1, .int (nI j))] := hl
  generalize hlo : ([] : List Loc) = locs at V ⊢
  clear hlo
  refine lv_aload_n hx hb dX5_isLeastOfRing_0 rfl (lv_at hl 0 rfl) ?_
  refine g_get hC V (ci := 5) uwX5 0 rfl rfl 13 (by decide) w_82 rfl rfl dX5_isLeastOfRing_1 ?_
  refine lv_iload_n hx hb dX5_isLeastOfRing_4 rfl (lv_at hl 1 rfl) ?_
  obtain ⟨j_1, hj_1, ej_1⟩ := bd_ex (h_t j (by omega))
  refine g_iald hC V 1 rfl (vp_in_nI (by omega) (by omega)) (v := (nI j_1)) (by rw [nI_clamp (by omega)]; exact ej_1) dX5_isLeastOfRing_5 ?_
  refine lv_istore_n (lv' := [(2, .int (nI j_1)), (0, .ref a0), (1, .int (nI j))]) hx hb dX5_isLeastOfRing_6 rfl hl (by decide) rfl (fun ls hl => ?_)
  refine lv_iconst (v := (nI 0)) hx hb dX5_isLeastOfRing_7 (by decide +kernel) ?_
  refine lv_istore_n (lv' := [(3, .int (nI 0)), (2, .int (nI j_1)), (0, .ref a0), (1, .int (nI j))]) hx hb dX5_isLeastOfRing_8 rfl hl (by decide) rfl (fun ls hl => ?_)
  have L_2 : ∀ (fu : Nat) (k9 : Nat) (at_ : Nat), k9 ≤ an → (at_ = ledF fa j (k9 + 1) ∧ at_ < an) → (∀ m, 1 ≤ m → m ≤ k9 → j < ledF fa j m) → an - k9 < fu → ∀ (H : Heap) (locs : List Loc) (ls : Array Slot), gW D T A s [(a0, .inr (5, [.int (nI an), .int am, .int al, .int ao, .int au, .ref a1, .ref a2, .ref a3, .ref a4, .ref a5, .ref a6, .ref a7, .ref a8, .ref a9, .ref a10])), (a9, .inl (T 0, 10, .inl af9))] H locs → lv_has ls 4 [(3, .int (nI k9)), (2, .int (nI at_)), (0, .ref a0), (1, .int (nI j))] → W p l e (rmD 0 0 0) s m args below meth c H locs 0 0 (MQ below (gQ D A (q_s_isLeast_f T fa a0 j an am al ao au a1 a2 a3 a4 a5 a6 a7 a8 a9 a10 af9)) args s 0 0 A) (F0 m 9 ls []) := by
    intro fu_9
    induction fu_9 with
    | zero => intro k9 at_ hk9 hat hgt hmu; exact absurd hmu (Nat.not_lt_zero _)
    | succ fu_9 ih_9 =>
      intro k9 at_ hk9 hat hgt hmu_9 H locs ls V hl
      refine lv_iload_n hx hb dX5_isLeastOfRing_9 rfl (lv_at hl 0 rfl) ?_
      refine lv_aload_n hx hb dX5_isLeastOfRing_10 rfl (lv_at hl 2 rfl) ?_
      refine g_get hC V (ci := 5) uwX5 0 rfl rfl 0 (by decide) w_33 rfl rfl dX5_isLeastOfRing_11 ?_
      refine lv_icmp_ge (tgt := 35) hx hb dX5_isLeastOfRing_14 (by decide) (fun c_3 => ?_) (fun c_3 => ?_)
      · skip
        have c_3 := b_le (by omega) (by omega) c_3
        refine lv_iload_n hx hb dX5_isLeastOfRing_35 rfl (lv_at hl 1 rfl) ?_
        refine lv_iload_n hx hb dX5_isLeastOfRing_36 rfl (lv_at hl 3 rfl) ?_
        refine lv_icmp_ne (tgt := 44) hx hb dX5_isLeastOfRing_37 (by decide) (fun c_4 => ?_) (fun c_4 => ?_)
        · skip
          have c_4 := b_ne (by omega) (by omega) c_4
          refine lv_iconst (v := (nI 0)) hx hb dX5_isLeastOfRing_44 (by decide +kernel) ?_
          exact g_zret (Qr := (q_s_isLeast_f T fa a0 j an am al ao au a1 a2 a3 a4 a5 a6 a7 a8 a9 a10 af9)) hC V ⟨(Nat.le_of_ble_eq_true rfl), (Nat.le_of_ble_eq_true rfl)⟩ (by first | decide +kernel | exact rfl) (.inr ⟨rfl, rfl, (lr_all h_a h_j (fun m a b => hgt m a (by omega)))⟩) dX5_isLeastOfRing_45
        · skip
          have c_4 := b_eq (by omega) (by omega) c_4
          have hje := c_4
          refine lv_iconst (v := (nI 1)) hx hb dX5_isLeastOfRing_40 (by decide +kernel) ?_
          refine lv_goto (tgt := 45) hx hb dX5_isLeastOfRing_41 (by decide) ?_
          exact g_zret (Qr := (q_s_isLeast_f T fa a0 j an am al ao au a1 a2 a3 a4 a5 a6 a7 a8 a9 a10 af9)) hC V ⟨(Nat.le_of_ble_eq_true rfl), (Nat.le_of_ble_eq_true rfl)⟩ (by first | decide +kernel | exact rfl) (.inl ⟨rfl, rfl, (lr_y hgt (hat.1.symm.trans hje))⟩) dX5_isLeastOfRing_45
      · skip
        have c_3 := b_nle (by omega) (by omega) c_3
        refine lv_iload_n hx hb dX5_isLeastOfRing_17 rfl (lv_at hl 1 rfl) ?_
        refine lv_iload_n hx hb dX5_isLeastOfRing_18 rfl (lv_at hl 3 rfl) ?_
        refine lv_icmp_le (tgt := 35) hx hb dX5_isLeastOfRing_19 (by decide) (fun c_5 => ?_) (fun c_5 => ?_)
        · skip
          have c_5 := b_le (by omega) (by omega) c_5
          refine lv_iload_n hx hb dX5_isLeastOfRing_35 rfl (lv_at hl 1 rfl) ?_
          refine lv_iload_n hx hb dX5_isLeastOfRing_36 rfl (lv_at hl 3 rfl) ?_
          refine lv_icmp_ne (tgt := 44) hx hb dX5_isLeastOfRing_37 (by decide) (fun c_6 => ?_) (fun c_6 => ?_)
          · skip
            have c_6 := b_ne (by omega) (by omega) c_6
            refine lv_iconst (v := (nI 0)) hx hb dX5_isLeastOfRing_44 (by decide +kernel) ?_
            exact g_zret (Qr := (q_s_isLeast_f T fa a0 j an am al ao au a1 a2 a3 a4 a5 a6 a7 a8 a9 a10 af9)) hC V ⟨(Nat.le_of_ble_eq_true rfl), (Nat.le_of_ble_eq_true rfl)⟩ (by first | decide +kernel | exact rfl) (.inr ⟨rfl, rfl, (lr_lt (k := k9 + 1) (by rw [← hat.1]; omega))⟩) dX5_isLeastOfRing_45
          · skip
            have c_6 := b_eq (by omega) (by omega) c_6
            have hje := c_6
            refine lv_iconst (v := (nI 1)) hx hb dX5_isLeastOfRing_40 (by decide +kernel) ?_
            refine lv_goto (tgt := 45) hx hb dX5_isLeastOfRing_41 (by decide) ?_
            exact g_zret (Qr := (q_s_isLeast_f T fa a0 j an am al ao au a1 a2 a3 a4 a5 a6 a7 a8 a9 a10 af9)) hC V ⟨(Nat.le_of_ble_eq_true rfl), (Nat.le_of_ble_eq_true rfl)⟩ (by first | decide +kernel | exact rfl) (.inl ⟨rfl, rfl, (lr_y hgt (hat.1.symm.trans hje))⟩) dX5_isLeastOfRing_45
        · skip
          have c_5 := b_nle (by omega) (by omega) c_5
          refine lv_aload_n hx hb dX5_isLeastOfRing_22 rfl (lv_at hl 2 rfl) ?_
          refine g_get hC V (ci := 5) uwX5 0 rfl rfl 13 (by decide) w_82 rfl rfl dX5_isLeastOfRing_23 ?_
          refine lv_iload_n hx hb dX5_isLeastOfRing_26 rfl (lv_at hl 1 rfl) ?_
          obtain ⟨j_7, hj_7, ej_7⟩ := bd_ex (h_t at_ (by omega))
          refine g_iald hC V 1 rfl (vp_in_nI (by omega) (by omega)) (v := (nI j_7)) (by rw [nI_clamp (by omega)]; exact ej_7) dX5_isLeastOfRing_27 ?_
          refine lv_istore_n (lv' := [(2, .int (nI j_7)), (3, .int (nI k9)), (0, .ref a0), (1, .int (nI j))]) hx hb dX5_isLeastOfRing_28 rfl hl (by decide) rfl (fun ls hl => ?_)
          refine lv_iinc (v := (nI (k9 + 1))) (lv' := [(3, .int (nI (k9 + 1))), (2, .int (nI j_7)), (0, .ref a0), (1, .int (nI j))]) hx hb dX5_isLeastOfRing_29 hl (k := 1) rfl (nI_1 _) (by decide) rfl (fun ls hl => ?_)
          refine lv_goto (tgt := 9) hx hb dX5_isLeastOfRing_32 (by decide) ?_
          exact ih_9 (k9 + 1) j_7 (by omega) (led_nx hat ((h_s9 at_ hat.2).symm.trans ej_7) (by omega) h_n) (lr_st hgt (by rw [← hat.1]; omega)) (by omega) _ _ _ V (lv_sub hl [0, 1, 2, 3] rfl)
  exact L_2 _ 0 j_1 (by omega) (led_nx ⟨rfl, h_j⟩ ((h_s9 j h_j).symm.trans ej_1) (by omega) h_n) (fun m a b => absurd a (by omega)) (Nat.lt_succ_self _) _ _ _ V (lv_sub hl [0, 1, 2, 3] rfl)

def q_x_ring_f (T : Nat → ClassId) (nf1 : Nat → Int32) (nf2 : Nat → Int32) (nf3 : Nat → Int32) (nf4 : Nat → Int32) (nf5 : Nat → Int32) (nf6 : Nat → Int32) (nf7 : Nat → Int32) (fa : Nat → Int32) (o : Nat) (i : Int32) (n0 : Nat) (s0 : Nat) (im : Nat) (iz : Nat) (rw : Nat) (t0 : Nat) (u0 : Nat) (h0 : Nat) (y0 : Nat) (sv : Value) (nn : Nat) (nm : Int32) (nl : Int32) (no : Int32) (nu : Int32) (n1 : Nat) (n2 : Nat) (n3 : Nat) (n4 : Nat) (n5 : Nat) (n6 : Nat) (n7 : Nat) (n8 : Nat) (n9 : Nat) (n10 : Nat) (nf9 : Nat → Int32) : Option Value → va_W → Prop := fun rr ww => (∃ (z : Int32), rr = some (.int z) ∧ ww = [(o, .inr (7, [.ref n0, .ref s0, .ref im, .ref iz, .ref rw, .ref t0, .ref u0, .ref h0, .ref y0, sv])), (n0, .inr (5, [.int (nI nn), .int nm, .int nl, .int no, .int nu, .ref n1, .ref n2, .ref n3, .ref n4, .ref n5, .ref n6, .ref n7, .ref n8, .ref n9, .ref n10])), (n9, .inl (T 0, 10, .inl nf9))] ∧ z = rgA nn fa i)
set_option maxHeartbeats 4000000 in
set_option maxRecDepth 100000 in
theorem x_ring_f (l : Launch) (D : va_G) (T : Nat → ClassId) (nf1 : Nat → Int32) (nf2 : Nat → Int32) (nf3 : Nat → Int32) (nf4 : Nat → Int32) (nf5 : Nat → Int32) (nf6 : Nat → Int32) (nf7 : Nat → Int32) (fa : Nat → Int32) (o : Nat) (i : Int32) (n0 : Nat) (s0 : Nat) (im : Nat) (iz : Nat) (rw : Nat) (t0 : Nat) (u0 : Nat) (h0 : Nat) (y0 : Nat) (sv : Value) (nn : Nat) (nm : Int32) (nl : Int32) (no : Int32) (nu : Int32) (n1 : Nat) (n2 : Nat) (n3 : Nat) (n4 : Nat) (n5 : Nat) (n6 : Nat) (n7 : Nat) (n8 : Nat) (n9 : Nat) (n10 : Nat) (nf9 : Nat → Int32) (h_n : nn ≤ 10) (h_t : ∀ i, i < nn → bd (nf9 i) nn) (h_sr : SR nn nm nl no nf1 nf2 nf3 nf4 nf5 nf6 nf7 nf9 fa) : Ct l yX7_ring cX7_ring 2 (some .int) 1 0 0 D T [.ref o, .int i] [(o, .inr (7, [.ref n0, .ref s0, .ref im, .ref iz, .ref rw, .ref t0, .ref u0, .ref h0, .ref y0, sv])), (n0, .inr (5, [.int (nI nn), .int nm, .int nl, .int no, .int nu, .ref n1, .ref n2, .ref n3, .ref n4, .ref n5, .ref n6, .ref n7, .ref n8, .ref n9, .ref n10])), (n9, .inl (T 0, 10, .inl nf9))] (q_x_ring_f T nf1 nf2 nf3 nf4 nf5 nf6 nf7 fa o i n0 s0 im iz rw t0 u0 h0 y0 sv nn nm nl no nu n1 n2 n3 n4 n5 n6 n7 n8 n9 n10 nf9) := by
  refine Ct.of (cc := cX7_ring) (maxL := 2) (ret := (some .int)) (by decide) (Nat.le_of_ble_eq_true rfl) ?_
  intro p e s m args below meth c A ls hC hnm V hl
  obtain ⟨hx, hb, hr, hml, hown, hts, hlocks⟩ := id hC
  generalize hH : s.heap = H at V ⊢
  clear hH
  have hl : lv_has ls 2 [(0, .ref o), (1, .int i)] := hl
  generalize hlo : ([] : List Loc) = locs at V ⊢
  clear hlo
  refine lv_aload_n hx hb dX7_ring_0 rfl (lv_at hl 0 rfl) ?_
  refine g_get hC V (ci := 7) uwX7 0 rfl rfl 0 (by decide) w_249 rfl rfl dX7_ring_1 ?_
  refine lv_iload_n hx hb dX7_ring_4 rfl (lv_at hl 1 rfl) ?_
  refine g_callVU (nA := 1) hC V hl.1 (s_isSmith l D T n0 i nn nm nl no nu n1 n2 n3 n4 n5 n6 n7 n8 n9 n10 (by first | assumption | omega)) w_425 w_426 w_427 w_3 w_428 (by decide +kernel) rfl ⟨(Nat.le_of_ble_eq_true rfl), (Nat.le_of_ble_eq_true rfl)⟩ 1 (ci := 5) rfl rfl [1] rfl rfl (Nat.le_of_ble_eq_true rfl) dX7_ring_5 ⟨(Nat.le_of_ble_eq_true rfl), (Nat.le_of_ble_eq_true rfl)⟩ rfl (fun r w1 H locs hQ V => ?_)
  rcases hQ with ⟨j_1, rfl, rfl, f_2, f_3⟩ | ⟨rfl, rfl, f_4⟩
  · have V : gW D T A s [(o, .inr (7, [.ref n0, .ref s0, .ref im, .ref iz, .ref rw, .ref t0, .ref u0, .ref h0, .ref y0, sv])), (n0, .inr (5, [.int (nI nn), .int nm, .int nl, .int no, .int nu, .ref n1, .ref n2, .ref n3, .ref n4, .ref n5, .ref n6, .ref n7, .ref n8, .ref n9, .ref n10])), (n9, .inl (T 0, 10, .inl nf9))] H locs := V _ [1] rfl rfl rfl (by decide +kernel) rfl
    show W p l e _ s m args below meth c H locs _ _ _ (F0 m 8 ls [.int (nI 1)])
    rw [f_2] at hl
    refine lv_if_eq (tgt := 29) hx hb dX7_ring_8 (by decide) (fun c => absurd (show (nI 1) = 0 from c) (by decide +kernel)) (fun _ => ?_)
    refine lv_aload_n hx hb dX7_ring_11 rfl (lv_at hl 0 rfl) ?_
    refine g_get hC V (ci := 7) uwX7 0 rfl rfl 0 (by decide) w_249 rfl rfl dX7_ring_12 ?_
    refine lv_aload_n hx hb dX7_ring_15 rfl (lv_at hl 0 rfl) ?_
    refine g_get hC V (ci := 7) uwX7 0 rfl rfl 0 (by decide) w_249 rfl rfl dX7_ring_16 ?_
    refine lv_iload_n hx hb dX7_ring_19 rfl (lv_at hl 1 rfl) ?_
    refine g_callVU (nA := 1) hC V hl.1 (s_inRing_f l D T fa n0 j_1 nn nm nl no nu n1 n2 n3 n4 n5 n6 n7 n8 n9 n10 nf9 (by first | assumption | omega) (by first | assumption | omega) (by first | assumption | omega) (fun i hi => (h_sr.2.2.2.2 i hi).2.2.2.2.2.2.2)) w_566 w_567 w_568 w_3 w_569 (by decide +kernel) rfl ⟨(Nat.le_of_ble_eq_true rfl), (Nat.le_of_ble_eq_true rfl)⟩ 1 (ci := 5) rfl rfl [1, 2] rfl rfl (Nat.le_of_ble_eq_true rfl) dX7_ring_20 ⟨(Nat.le_of_ble_eq_true rfl), (Nat.le_of_ble_eq_true rfl)⟩ rfl (fun r w1 H locs hQ V => ?_)
    obtain ⟨xr, rfl, rfl, f_5⟩ := hQ
    have V : gW D T A s [(o, .inr (7, [.ref n0, .ref s0, .ref im, .ref iz, .ref rw, .ref t0, .ref u0, .ref h0, .ref y0, sv])), (n0, .inr (5, [.int (nI nn), .int nm, .int nl, .int no, .int nu, .ref n1, .ref n2, .ref n3, .ref n4, .ref n5, .ref n6, .ref n7, .ref n8, .ref n9, .ref n10])), (n9, .inl (T 0, 10, .inl nf9))] H locs := V _ [1, 0] rfl rfl rfl (by decide +kernel) rfl
    show W p l e _ s m args below meth c H locs _ _ _ (F0 m 23 ls [.int (nI xr), .ref n0])
    refine g_callVU (nA := 1) hC V hl.1 (s_ringLength_f l D T fa n0 xr nn nm nl no nu n1 n2 n3 n4 n5 n6 n7 n8 n9 n10 nf9 (by first | assumption | omega) (by first | assumption | omega) f_5.2 (fun i hi => (h_sr.2.2.2.2 i hi).2.2.2.2.2.2.2)) w_570 w_571 w_572 w_3 w_573 (by decide +kernel) rfl ⟨(Nat.le_of_ble_eq_true rfl), (Nat.le_of_ble_eq_true rfl)⟩ 1 (ci := 5) rfl rfl [1, 2] rfl rfl (Nat.le_of_ble_eq_true rfl) dX7_ring_23 ⟨(Nat.le_of_ble_eq_true rfl), (Nat.le_of_ble_eq_true rfl)⟩ rfl (fun r w1 H locs hQ V => ?_)
    obtain ⟨r_6, rfl, rfl, f_7⟩ := hQ
    have V : gW D T A s [(o, .inr (7, [.ref n0, .ref s0, .ref im, .ref iz, .ref rw, .ref t0, .ref u0, .ref h0, .ref y0, sv])), (n0, .inr (5, [.int (nI nn), .int nm, .int nl, .int no, .int nu, .ref n1, .ref n2, .ref n3, .ref n4, .ref n5, .ref n6, .ref n7, .ref n8, .ref n9, .ref n10])), (n9, .inl (T 0, 10, .inl nf9))] H locs := V _ [1, 0] rfl rfl rfl (by decide +kernel) rfl
    show W p l e _ s m args below meth c H locs _ _ _ (F0 m 26 ls [.int (nI r_6)])
    refine lv_goto (tgt := 31) hx hb dX7_ring_26 (by decide) ?_
    exact g_iret (Qr := (q_x_ring_f T nf1 nf2 nf3 nf4 nf5 nf6 nf7 fa o i n0 s0 im iz rw t0 u0 h0 y0 sv nn nm nl no nu n1 n2 n3 n4 n5 n6 n7 n8 n9 n10 nf9)) hC V ⟨(Nat.le_of_ble_eq_true rfl), (Nat.le_of_ble_eq_true rfl)⟩ ⟨(nI r_6), rfl, rfl, (rg_y h_n f_2 f_3 (by rw [← f_5.1]; exact f_7))⟩ dX7_ring_31
  · have V : gW D T A s [(o, .inr (7, [.ref n0, .ref s0, .ref im, .ref iz, .ref rw, .ref t0, .ref u0, .ref h0, .ref y0, sv])), (n0, .inr (5, [.int (nI nn), .int nm, .int nl, .int no, .int nu, .ref n1, .ref n2, .ref n3, .ref n4, .ref n5, .ref n6, .ref n7, .ref n8, .ref n9, .ref n10])), (n9, .inl (T 0, 10, .inl nf9))] H locs := V _ [1] rfl rfl rfl (by decide +kernel) rfl
    show W p l e _ s m args below meth c H locs _ _ _ (F0 m 8 ls [.int (nI 0)])
    refine lv_if_eq (tgt := 29) hx hb dX7_ring_8 (by decide) (fun _ => ?_) (fun c => absurd (show (nI 0) = 0 by decide +kernel) c)
    refine lv_bipush (v := (-2)) hx hb dX7_ring_29 (by decide +kernel) ?_
    exact g_iret (Qr := (q_x_ring_f T nf1 nf2 nf3 nf4 nf5 nf6 nf7 fa o i n0 s0 im iz rw t0 u0 h0 y0 sv nn nm nl no nu n1 n2 n3 n4 n5 n6 n7 n8 n9 n10 nf9)) hC V ⟨(Nat.le_of_ble_eq_true rfl), (Nat.le_of_ble_eq_true rfl)⟩ ⟨(-2), rfl, rfl, (rg_o f_4)⟩ dX7_ring_31

def q_x_rings_f (T : Nat → ClassId) (nf1 : Nat → Int32) (nf2 : Nat → Int32) (nf3 : Nat → Int32) (nf4 : Nat → Int32) (nf5 : Nat → Int32) (nf6 : Nat → Int32) (nf7 : Nat → Int32) (fa : Nat → Int32) (o : Nat) (n0 : Nat) (s0 : Nat) (im : Nat) (iz : Nat) (rw : Nat) (t0 : Nat) (u0 : Nat) (h0 : Nat) (y0 : Nat) (sv : Value) (nn : Nat) (nm : Int32) (nl : Int32) (no : Int32) (nu : Int32) (n1 : Nat) (n2 : Nat) (n3 : Nat) (n4 : Nat) (n5 : Nat) (n6 : Nat) (n7 : Nat) (n8 : Nat) (n9 : Nat) (n10 : Nat) (nf9 : Nat → Int32) : Option Value → va_W → Prop := fun rr ww => (∃ (z : Int32), rr = some (.int z) ∧ ww = [(o, .inr (7, [.ref n0, .ref s0, .ref im, .ref iz, .ref rw, .ref t0, .ref u0, .ref h0, .ref y0, sv])), (n0, .inr (5, [.int (nI nn), .int nm, .int nl, .int no, .int nu, .ref n1, .ref n2, .ref n3, .ref n4, .ref n5, .ref n6, .ref n7, .ref n8, .ref n9, .ref n10])), (n9, .inl (T 0, 10, .inl nf9))] ∧ z = rcF fa nn)
set_option maxHeartbeats 4000000 in
set_option maxRecDepth 100000 in
theorem x_rings_f (l : Launch) (D : va_G) (T : Nat → ClassId) (nf1 : Nat → Int32) (nf2 : Nat → Int32) (nf3 : Nat → Int32) (nf4 : Nat → Int32) (nf5 : Nat → Int32) (nf6 : Nat → Int32) (nf7 : Nat → Int32) (fa : Nat → Int32) (o : Nat) (n0 : Nat) (s0 : Nat) (im : Nat) (iz : Nat) (rw : Nat) (t0 : Nat) (u0 : Nat) (h0 : Nat) (y0 : Nat) (sv : Value) (nn : Nat) (nm : Int32) (nl : Int32) (no : Int32) (nu : Int32) (n1 : Nat) (n2 : Nat) (n3 : Nat) (n4 : Nat) (n5 : Nat) (n6 : Nat) (n7 : Nat) (n8 : Nat) (n9 : Nat) (n10 : Nat) (nf9 : Nat → Int32) (h_n : nn ≤ 10) (h_t : ∀ i, i < nn → bd (nf9 i) nn) (h_sr : SR nn nm nl no nf1 nf2 nf3 nf4 nf5 nf6 nf7 nf9 fa) (h_a : MI nn fa) : Ct l yX7_rings cX7_rings 3 (some .int) 1 0 0 D T [.ref o] [(o, .inr (7, [.ref n0, .ref s0, .ref im, .ref iz, .ref rw, .ref t0, .ref u0, .ref h0, .ref y0, sv])), (n0, .inr (5, [.int (nI nn), .int nm, .int nl, .int no, .int nu, .ref n1, .ref n2, .ref n3, .ref n4, .ref n5, .ref n6, .ref n7, .ref n8, .ref n9, .ref n10])), (n9, .inl (T 0, 10, .inl nf9))] (q_x_rings_f T nf1 nf2 nf3 nf4 nf5 nf6 nf7 fa o n0 s0 im iz rw t0 u0 h0 y0 sv nn nm nl no nu n1 n2 n3 n4 n5 n6 n7 n8 n9 n10 nf9) := by
  refine Ct.of (cc := cX7_rings) (maxL := 3) (ret := (some .int)) (by decide) (Nat.le_of_ble_eq_true rfl) ?_
  intro p e s m args below meth c A ls hC hnm V hl
  obtain ⟨hx, hb, hr, hml, hown, hts, hlocks⟩ := id hC
  generalize hH : s.heap = H at V ⊢
  clear hH
  have hl : lv_has ls 3 [(0, .ref o)] := hl
  generalize hlo : ([] : List Loc) = locs at V ⊢
  clear hlo
  refine lv_iconst (v := (nI 0)) hx hb dX7_rings_0 (by decide +kernel) ?_
  refine lv_istore_n (lv' := [(1, .int (nI 0)), (0, .ref o)]) hx hb dX7_rings_1 rfl hl (by decide) rfl (fun ls hl => ?_)
  refine lv_iconst (v := (nI 0)) hx hb dX7_rings_2 (by decide +kernel) ?_
  refine lv_istore_n (lv' := [(2, .int (nI 0)), (1, .int (nI 0)), (0, .ref o)]) hx hb dX7_rings_3 rfl hl (by decide) rfl (fun ls hl => ?_)
  have L_1 : ∀ (fu : Nat) (k4 : Nat) (x1 : Int32), k4 ≤ nn → x1 = rcF fa k4 → nn - k4 < fu → ∀ (H : Heap) (locs : List Loc) (ls : Array Slot), gW D T A s [(o, .inr (7, [.ref n0, .ref s0, .ref im, .ref iz, .ref rw, .ref t0, .ref u0, .ref h0, .ref y0, sv])), (n0, .inr (5, [.int (nI nn), .int nm, .int nl, .int no, .int nu, .ref n1, .ref n2, .ref n3, .ref n4, .ref n5, .ref n6, .ref n7, .ref n8, .ref n9, .ref n10])), (n9, .inl (T 0, 10, .inl nf9))] H locs → lv_has ls 3 [(2, .int (nI k4)), (1, .int x1), (0, .ref o)] → W p l e (rmD 1 0 0) s m args below meth c H locs 0 0 (MQ below (gQ D A (q_x_rings_f T nf1 nf2 nf3 nf4 nf5 nf6 nf7 fa o n0 s0 im iz rw t0 u0 h0 y0 sv nn nm nl no nu n1 n2 n3 n4 n5 n6 n7 n8 n9 n10 nf9)) args s 0 0 A) (F0 m 4 ls []) := by
    intro fu_4
    induction fu_4 with
    | zero => intro k4 x1 hk4 hx1 hmu; exact absurd hmu (Nat.not_lt_zero _)
    | succ fu_4 ih_4 =>
      intro k4 x1 hk4 hx1 hmu_4 H locs ls V hl
      refine lv_iload_n hx hb dX7_rings_4 rfl (lv_at hl 0 rfl) ?_
      refine lv_aload_n hx hb dX7_rings_5 rfl (lv_at hl 2 rfl) ?_
      refine g_get hC V (ci := 7) uwX7 0 rfl rfl 0 (by decide) w_249 rfl rfl dX7_rings_6 ?_
      refine g_get hC V (ci := 5) uwX5 1 rfl rfl 0 (by decide) w_38 rfl rfl dX7_rings_9 ?_
      refine lv_icmp_ge (tgt := 35) hx hb dX7_rings_12 (by decide) (fun c_2 => ?_) (fun c_2 => ?_)
      · skip
        have c_2 := b_le (by omega) (by omega) c_2
        refine lv_iload_n hx hb dX7_rings_35 rfl (lv_at hl 1 rfl) ?_
        exact g_iret (Qr := (q_x_rings_f T nf1 nf2 nf3 nf4 nf5 nf6 nf7 fa o n0 s0 im iz rw t0 u0 h0 y0 sv nn nm nl no nu n1 n2 n3 n4 n5 n6 n7 n8 n9 n10 nf9)) hC V ⟨(Nat.le_of_ble_eq_true rfl), (Nat.le_of_ble_eq_true rfl)⟩ ⟨x1, rfl, rfl, (by rw [hx1]; congr 1; omega)⟩ dX7_rings_36
      · skip
        have c_2 := b_nle (by omega) (by omega) c_2
        refine lv_aload_n hx hb dX7_rings_15 rfl (lv_at hl 2 rfl) ?_
        refine g_get hC V (ci := 7) uwX7 0 rfl rfl 0 (by decide) w_249 rfl rfl dX7_rings_16 ?_
        refine lv_iload_n hx hb dX7_rings_19 rfl (lv_at hl 0 rfl) ?_
        refine g_callVU (nA := 1) hC V hl.1 (s_isLeast_f l D T fa n0 k4 nn nm nl no nu n1 n2 n3 n4 n5 n6 n7 n8 n9 n10 nf9 (by first | assumption | omega) (by first | assumption | omega) (by first | assumption | omega) (fun i hi => (h_sr.2.2.2.2 i hi).2.2.2.2.2.2.2) (by first | assumption | omega)) w_578 w_579 w_580 w_3 w_581 (by decide +kernel) rfl ⟨(Nat.le_of_ble_eq_true rfl), (Nat.le_of_ble_eq_true rfl)⟩ 1 (ci := 5) rfl rfl [1, 2] rfl rfl (Nat.le_of_ble_eq_true rfl) dX7_rings_20 ⟨(Nat.le_of_ble_eq_true rfl), (Nat.le_of_ble_eq_true rfl)⟩ rfl (fun r w1 H locs hQ V => ?_)
        rcases hQ with ⟨rfl, rfl, f_3⟩ | ⟨rfl, rfl, f_4⟩
        · have V : gW D T A s [(o, .inr (7, [.ref n0, .ref s0, .ref im, .ref iz, .ref rw, .ref t0, .ref u0, .ref h0, .ref y0, sv])), (n0, .inr (5, [.int (nI nn), .int nm, .int nl, .int no, .int nu, .ref n1, .ref n2, .ref n3, .ref n4, .ref n5, .ref n6, .ref n7, .ref n8, .ref n9, .ref n10])), (n9, .inl (T 0, 10, .inl nf9))] H locs := V _ [1, 0] rfl rfl rfl (by decide +kernel) rfl
          show W p l e _ s m args below meth c H locs _ _ _ (F0 m 23 ls [.int (nI 1)])
          refine lv_if_eq (tgt := 29) hx hb dX7_rings_23 (by decide) (fun c => absurd (show (nI 1) = 0 from c) (by decide +kernel)) (fun _ => ?_)
          refine lv_iinc (v := (x1 + 1)) (lv' := [(1, .int (x1 + 1)), (2, .int (nI k4)), (0, .ref o)]) hx hb dX7_rings_26 hl (k := 1) rfl rfl (by decide) rfl (fun ls hl => ?_)
          refine lv_iinc (v := (nI (k4 + 1))) (lv' := [(2, .int (nI (k4 + 1))), (1, .int (x1 + 1)), (0, .ref o)]) hx hb dX7_rings_29 hl (k := 1) rfl (nI_1 _) (by decide) rfl (fun ls hl => ?_)
          refine lv_goto (tgt := 4) hx hb dX7_rings_32 (by decide) ?_
          exact ih_4 (k4 + 1) (x1 + 1) (by omega) (by rw [hx1]; exact rc_y f_3) (by omega) _ _ _ V (lv_sub hl [0, 1, 2] rfl)
        · have V : gW D T A s [(o, .inr (7, [.ref n0, .ref s0, .ref im, .ref iz, .ref rw, .ref t0, .ref u0, .ref h0, .ref y0, sv])), (n0, .inr (5, [.int (nI nn), .int nm, .int nl, .int no, .int nu, .ref n1, .ref n2, .ref n3, .ref n4, .ref n5, .ref n6, .ref n7, .ref n8, .ref n9, .ref n10])), (n9, .inl (T 0, 10, .inl nf9))] H locs := V _ [1, 0] rfl rfl rfl (by decide +kernel) rfl
          show W p l e _ s m args below meth c H locs _ _ _ (F0 m 23 ls [.int (nI 0)])
          refine lv_if_eq (tgt := 29) hx hb dX7_rings_23 (by decide) (fun _ => ?_) (fun c => absurd (show (nI 0) = 0 by decide +kernel) c)
          refine lv_iinc (v := (nI (k4 + 1))) (lv' := [(2, .int (nI (k4 + 1))), (1, .int x1), (0, .ref o)]) hx hb dX7_rings_29 hl (k := 0) rfl (nI_1 _) (by decide) rfl (fun ls hl => ?_)
          refine lv_goto (tgt := 4) hx hb dX7_rings_32 (by decide) ?_
          exact ih_4 (k4 + 1) x1 (by omega) (by rw [hx1]; exact rc_n f_4) (by omega) _ _ _ V (lv_sub hl [0, 1, 2] rfl)
  exact L_1 _ 0 (nI 0) (by omega) rfl (Nat.lt_succ_self _) _ _ _ V (lv_sub hl [0, 1, 2] rfl)
