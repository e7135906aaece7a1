def q_s_weigh_f (T : Nat → ClassId) (fa : Nat → Int32) (a0 : Nat) (pl : Int32) (an : Nat) (am : Int32) (al : Int32) (ao : Int32) (au : Int32) (a1 : Nat) (a2 : Nat) (a3 : Nat) (a4 : Nat) (a5 : Nat) (a6 : Nat) (a7 : Nat) (a8 : Nat) (a9 : Nat) (a10 : Nat) (af1 : Nat → Int32) (af2 : Nat → Int32) (af9 : Nat → Int32) (af10 : Nat → Int32) : Option Value → va_W → Prop := fun rr ww => (∃ (g10 : Nat → Int32), rr = none ∧ ww = [(a0, .inr (5, [.int (nI an), .int am, .int al, .int ao, .int au, .ref a1, .ref a2, .ref a3, .ref a4, .ref a5, .ref a6, .ref a7, .ref a8, .ref a9, .ref a10])), (a1, .inl (T 0, 10, .inl af1)), (a2, .inl (T 0, 10, .inl af2)), (a9, .inl (T 0, 10, .inl af9)), (a10, .inl (T 0, 10, .inl g10))] ∧ (∀ i, i < an → g10 i = -(fa (14 + i)) + bsF fa pl i an))
set_option maxHeartbeats 4000000 in
set_option maxRecDepth 100000 in
theorem s_weigh_f (l : Launch) (D : va_G) (T : Nat → ClassId) (fa : Nat → Int32) (a0 : Nat) (pl : Int32) (an : Nat) (am : Int32) (al : Int32) (ao : Int32) (au : Int32) (a1 : Nat) (a2 : Nat) (a3 : Nat) (a4 : Nat) (a5 : Nat) (a6 : Nat) (a7 : Nat) (a8 : Nat) (a9 : Nat) (a10 : Nat) (af1 : Nat → Int32) (af2 : Nat → Int32) (af9 : Nat → Int32) (af10 : Nat → Int32) (h_n : an ≤ 10) (h_t : ∀ i, i < an → bd (af9 i) an) (h_s1 : ∀ i, i < an → af1 i = fa (4 + i)) (h_s2 : ∀ i, i < an → af2 i = fa (14 + i)) (h_s9 : ∀ i, i < an → af9 i = fa (84 + i)) : Ct l yX5_weighChanges cX5_weighChanges 3 none 1 0 0 D T [.ref a0, .int pl] [(a0, .inr (5, [.int (nI an), .int am, .int al, .int ao, .int au, .ref a1, .ref a2, .ref a3, .ref a4, .ref a5, .ref a6, .ref a7, .ref a8, .ref a9, .ref a10])), (a1, .inl (T 0, 10, .inl af1)), (a2, .inl (T 0, 10, .inl af2)), (a9, .inl (T 0, 10, .inl af9)), (a10, .inl (T 0, 10, .inl af10))] (q_s_weigh_f T fa a0 pl an am al ao au a1 a2 a3 a4 a5 a6 a7 a8 a9 a10 af1 af2 af9 af10) := by
  refine Ct.of (cc := cX5_weighChanges) (maxL := 3) (ret := none) (by decide) (Nat.le_of_ble_eq_true rfl) ?_
  intro p e s m args below meth c A ls hC hnm V hl
  obtain ⟨hx, hb, hr, hml, hown, hts, hlocks⟩ := id hC
  generalize hH : s.heap = H at V ⊢
  clear hH
  have hl : lv_has ls 3 [(0, .ref a0), (1, .int pl)] := hl
  generalize hlo : ([] : List Loc) = locs at V ⊢
  clear hlo
  refine lv_iconst (v := (nI 0)) hx hb dX5_weighChanges_0 (by decide +kernel) ?_
  refine lv_istore_n (lv' := [(2, .int (nI 0)), (0, .ref a0), (1, .int pl)]) hx hb dX5_weighChanges_1 rfl hl (by decide) rfl (fun ls hl => ?_)
  have L_1 : ∀ (fu : Nat) (k2 : Nat) (gc : Nat → Int32), k2 ≤ an → (∀ i, i < k2 → gc i = -(fa (14 + i))) → an - k2 < fu → ∀ (H : Heap) (locs : List Loc) (ls : Array Slot), gW D T A s [(a0, .inr (5, [.int (nI an), .int am, .int al, .int ao, .int au, .ref a1, .ref a2, .ref a3, .ref a4, .ref a5, .ref a6, .ref a7, .ref a8, .ref a9, .ref a10])), (a1, .inl (T 0, 10, .inl af1)), (a2, .inl (T 0, 10, .inl af2)), (a9, .inl (T 0, 10, .inl af9)), (a10, .inl (T 0, 10, .inl gc))] H locs → lv_has ls 3 [(2, .int (nI k2)), (0, .ref a0), (1, .int pl)] → W p l e (rmD 1 0 0) s m args below meth c H locs 0 0 (MQ below (gQ D A (q_s_weigh_f T fa a0 pl an am al ao au a1 a2 a3 a4 a5 a6 a7 a8 a9 a10 af1 af2 af9 af10)) args s 0 0 A) (F0 m 2 ls []) := by
    intro fu_2
    induction fu_2 with
    | zero => intro k2 gc hk2 hc2 hmu; exact absurd hmu (Nat.not_lt_zero _)
    | succ fu_2 ih_2 =>
      intro k2 gc hk2 hc2 hmu_2 H locs ls V hl
      refine lv_iload_n hx hb dX5_weighChanges_2 rfl (lv_at hl 0 rfl) ?_
      refine lv_aload_n hx hb dX5_weighChanges_3 rfl (lv_at hl 1 rfl) ?_
      refine g_get hC V (ci := 5) uwX5 0 rfl rfl 0 (by decide) w_33 rfl rfl dX5_weighChanges_4 ?_
      refine lv_icmp_ge (tgt := 29) hx hb dX5_weighChanges_7 (by decide) (fun c_2 => ?_) (fun c_2 => ?_)
      · skip
        have c_2 := b_le (by omega) (by omega) c_2
        refine lv_iconst (v := (nI 0)) hx hb dX5_weighChanges_29 (by decide +kernel) ?_
        refine lv_istore_n (lv' := [(2, .int (nI 0)), (0, .ref a0), (1, .int pl)]) hx hb dX5_weighChanges_30 rfl hl (by decide) rfl (fun ls hl => ?_)
        have L_3 : ∀ (fu : Nat) (k31 : Nat) (gd : Nat → Int32), k31 ≤ an → (∀ i, i < an → gd i = -(fa (14 + i)) + bsF fa pl i k31) → an - k31 < fu → ∀ (H : Heap) (locs : List Loc) (ls : Array Slot), gW D T A s [(a0, .inr (5, [.int (nI an), .int am, .int al, .int ao, .int au, .ref a1, .ref a2, .ref a3, .ref a4, .ref a5, .ref a6, .ref a7, .ref a8, .ref a9, .ref a10])), (a1, .inl (T 0, 10, .inl af1)), (a2, .inl (T 0, 10, .inl af2)), (a9, .inl (T 0, 10, .inl af9)), (a10, .inl (T 0, 10, .inl gd))] H locs → lv_has ls 3 [(2, .int (nI k31)), (0, .ref a0), (1, .int pl)] → W p l e (rmD 1 0 0) s m args below meth c H locs 0 0 (MQ below (gQ D A (q_s_weigh_f T fa a0 pl an am al ao au a1 a2 a3 a4 a5 a6 a7 a8 a9 a10 af1 af2 af9 af10)) args s 0 0 A) (F0 m 31 ls []) := by
          intro fu_31
          induction fu_31 with
          | zero => intro k31 gd hk31 hd31 hmu; exact absurd hmu (Nat.not_lt_zero _)
          | succ fu_31 ih_31 =>
            intro k31 gd hk31 hd31 hmu_31 H locs ls V hl
            refine lv_iload_n hx hb dX5_weighChanges_31 rfl (lv_at hl 0 rfl) ?_
            refine lv_aload_n hx hb dX5_weighChanges_32 rfl (lv_at hl 1 rfl) ?_
            refine g_get hC V (ci := 5) uwX5 0 rfl rfl 0 (by decide) w_33 rfl rfl dX5_weighChanges_33 ?_
            refine lv_icmp_ge (tgt := 73) hx hb dX5_weighChanges_36 (by decide) (fun c_4 => ?_) (fun c_4 => ?_)
            · skip
              have c_4 := b_le (by omega) (by omega) c_4
              exact g_vret (Qr := (q_s_weigh_f T fa a0 pl an am al ao au a1 a2 a3 a4 a5 a6 a7 a8 a9 a10 af1 af2 af9 af10)) hC V ⟨(Nat.le_of_ble_eq_true rfl), (Nat.le_of_ble_eq_true rfl)⟩ ⟨gd, rfl, rfl, (fun i hi => by rw [hd31 i hi]; congr 2; omega)⟩ dX5_weighChanges_73
            · skip
              have c_4 := b_nle (by omega) (by omega) c_4
              refine lv_iload_n hx hb dX5_weighChanges_39 rfl (lv_at hl 2 rfl) ?_
              refine lv_iload_n hx hb dX5_weighChanges_40 rfl (lv_at hl 0 rfl) ?_
              refine g_callSNU (nA := 2) (host := RX7) hC V hl.1 (c_isIn_f l D T pl k31) w_472 (List.mem_of_getElem? (i := 13) rfl) w_2 w_471 (by decide +kernel) rfl ⟨(Nat.le_of_ble_eq_true rfl), (Nat.le_of_ble_eq_true rfl)⟩ [] rfl rfl (Nat.le_of_ble_eq_true rfl) dX5_weighChanges_41 ⟨(Nat.le_of_ble_eq_true rfl), (Nat.le_of_ble_eq_true rfl)⟩ rfl (fun r w1 H locs hQ V => ?_)
              rcases hQ with ⟨rfl, rfl, f_5⟩ | ⟨rfl, rfl, f_6⟩
              · have V : gW D T A s [(a0, .inr (5, [.int (nI an), .int am, .int al, .int ao, .int au, .ref a1, .ref a2, .ref a3, .ref a4, .ref a5, .ref a6, .ref a7, .ref a8, .ref a9, .ref a10])), (a1, .inl (T 0, 10, .inl af1)), (a2, .inl (T 0, 10, .inl af2)), (a9, .inl (T 0, 10, .inl af9)), (a10, .inl (T 0, 10, .inl gd))] H locs := V _ [] rfl rfl rfl (by decide +kernel) rfl
                show W p l e _ s m args below meth c H locs _ _ _ (F0 m 44 ls [.int (nI 1)])
                refine lv_if_eq (tgt := 67) hx hb dX5_weighChanges_44 (by decide) (fun c => absurd (show (nI 1) = 0 from c) (by decide +kernel)) (fun _ => ?_)
                refine lv_aload_n hx hb dX5_weighChanges_47 rfl (lv_at hl 1 rfl) ?_
                refine g_get hC V (ci := 5) uwX5 0 rfl rfl 14 (by decide) w_86 rfl rfl dX5_weighChanges_48 ?_
                refine lv_aload_n hx hb dX5_weighChanges_51 rfl (lv_at hl 1 rfl) ?_
                refine g_get hC V (ci := 5) uwX5 0 rfl rfl 13 (by decide) w_82 rfl rfl dX5_weighChanges_52 ?_
                refine lv_iload_n hx hb dX5_weighChanges_55 rfl (lv_at hl 0 rfl) ?_
                obtain ⟨j_7, hj_7, ej_7⟩ := bd_ex (h_t k31 (by omega))
                refine g_iald hC V 3 rfl (vp_in_nI (by omega) (by omega)) (v := (nI j_7)) (by rw [nI_clamp (by omega)]; exact ej_7) dX5_weighChanges_56 ?_
                refine lv_dup2_11 hx hb dX5_weighChanges_57 rfl rfl ?_
                refine g_iald hC V 4 rfl (vp_in_nI (by omega) (by omega)) (v := (gd j_7)) (congrArg _ (nI_clamp (by omega))) dX5_weighChanges_58 ?_
                refine lv_aload_n hx hb dX5_weighChanges_59 rfl (lv_at hl 1 rfl) ?_
                refine g_get hC V (ci := 5) uwX5 0 rfl rfl 5 (by decide) w_51 rfl rfl dX5_weighChanges_60 ?_
                refine lv_iload_n hx hb dX5_weighChanges_63 rfl (lv_at hl 0 rfl) ?_
                refine g_iald hC V 1 rfl (vp_in_nI (by omega) (by omega)) (v := (af1 k31)) (congrArg _ (nI_clamp (by omega))) dX5_weighChanges_64 ?_
                refine lv_iadd hx hb dX5_weighChanges_65 ?_
                refine g_iast hC V 4 rfl (vp_in_nI (by omega) (by omega)) (f' := (upd gd j_7 ((gd j_7) + (af1 k31)))) (by rw [nI_clamp (by omega)]) (ws' := [(a0, .inr (5, [.int (nI an), .int am, .int al, .int ao, .int au, .ref a1, .ref a2, .ref a3, .ref a4, .ref a5, .ref a6, .ref a7, .ref a8, .ref a9, .ref a10])), (a1, .inl (T 0, 10, .inl af1)), (a2, .inl (T 0, 10, .inl af2)), (a9, .inl (T 0, 10, .inl af9)), (a10, .inl (T 0, 10, .inl (upd gd j_7 ((gd j_7) + (af1 k31)))))]) rfl dX5_weighChanges_66 (fun H locs V => ?_)
                refine lv_iinc (v := (nI (k31 + 1))) (lv' := [(2, .int (nI (k31 + 1))), (0, .ref a0), (1, .int pl)]) hx hb dX5_weighChanges_67 hl (k := 0) rfl (nI_1 _) (by decide) rfl (fun ls hl => ?_)
                refine lv_goto (tgt := 31) hx hb dX5_weighChanges_70 (by decide) ?_
                exact ih_31 (k31 + 1) (upd gd j_7 ((gd j_7) + (af1 k31))) (by omega) (wc_y h_n hd31 f_5 ((h_s9 _ (by omega)).symm.trans ej_7) (by omega) (h_s1 _ (by omega))) (by omega) _ _ _ V (lv_sub hl [0, 1, 2] rfl)
              · have V : gW D T A s [(a0, .inr (5, [.int (nI an), .int am, .int al, .int ao, .int au, .ref a1, .ref a2, .ref a3, .ref a4, .ref a5, .ref a6, .ref a7, .ref a8, .ref a9, .ref a10])), (a1, .inl (T 0, 10, .inl af1)), (a2, .inl (T 0, 10, .inl af2)), (a9, .inl (T 0, 10, .inl af9)), (a10, .inl (T 0, 10, .inl gd))] H locs := V _ [] rfl rfl rfl (by decide +kernel) rfl
                show W p l e _ s m args below meth c H locs _ _ _ (F0 m 44 ls [.int (nI 0)])
                refine lv_if_eq (tgt := 67) hx hb dX5_weighChanges_44 (by decide) (fun _ => ?_) (fun c => absurd (show (nI 0) = 0 by decide +kernel) c)
                refine lv_iinc (v := (nI (k31 + 1))) (lv' := [(2, .int (nI (k31 + 1))), (0, .ref a0), (1, .int pl)]) hx hb dX5_weighChanges_67 hl (k := 0) rfl (nI_1 _) (by decide) rfl (fun ls hl => ?_)
                refine lv_goto (tgt := 31) hx hb dX5_weighChanges_70 (by decide) ?_
                exact ih_31 (k31 + 1) gd (by omega) (wc_n hd31 f_6) (by omega) _ _ _ V (lv_sub hl [0, 1, 2] rfl)
        exact L_3 _ 0 gc (by omega) (wc_0 (fun i hi => hc2 i (by omega))) (Nat.lt_succ_self _) _ _ _ V (lv_sub hl [0, 1, 2] rfl)
      · skip
        have c_2 := b_nle (by omega) (by omega) c_2
        refine lv_aload_n hx hb dX5_weighChanges_10 rfl (lv_at hl 1 rfl) ?_
        refine g_get hC V (ci := 5) uwX5 0 rfl rfl 14 (by decide) w_86 rfl rfl dX5_weighChanges_11 ?_
        refine lv_iload_n hx hb dX5_weighChanges_14 rfl (lv_at hl 0 rfl) ?_
        refine lv_aload_n hx hb dX5_weighChanges_15 rfl (lv_at hl 1 rfl) ?_
        refine g_get hC V (ci := 5) uwX5 0 rfl rfl 6 (by decide) w_56 rfl rfl dX5_weighChanges_16 ?_
        refine lv_iload_n hx hb dX5_weighChanges_19 rfl (lv_at hl 0 rfl) ?_
        refine g_iald hC V 2 rfl (vp_in_nI (by omega) (by omega)) (v := (af2 k2)) (congrArg _ (nI_clamp (by omega))) dX5_weighChanges_20 ?_
        refine lv_ineg hx hb dX5_weighChanges_21 ?_
        refine g_iast hC V 4 rfl (vp_in_nI (by omega) (by omega)) (f' := (upd gc k2 (-(af2 k2)))) (by rw [nI_clamp (by omega)]) (ws' := [(a0, .inr (5, [.int (nI an), .int am, .int al, .int ao, .int au, .ref a1, .ref a2, .ref a3, .ref a4, .ref a5, .ref a6, .ref a7, .ref a8, .ref a9, .ref a10])), (a1, .inl (T 0, 10, .inl af1)), (a2, .inl (T 0, 10, .inl af2)), (a9, .inl (T 0, 10, .inl af9)), (a10, .inl (T 0, 10, .inl (upd gc k2 (-(af2 k2)))))]) rfl dX5_weighChanges_22 (fun H locs V => ?_)
        refine lv_iinc (v := (nI (k2 + 1))) (lv' := [(2, .int (nI (k2 + 1))), (0, .ref a0), (1, .int pl)]) hx hb dX5_weighChanges_23 hl (k := 0) rfl (nI_1 _) (by decide) rfl (fun ls hl => ?_)
        refine lv_goto (tgt := 2) hx hb dX5_weighChanges_26 (by decide) ?_
        exact ih_2 (k2 + 1) (upd gc k2 (-(af2 k2))) (by omega) (up_one (p := fun i x => x = -(fa (14 + i))) hc2 (by rw [h_s2 _ (by omega)])) (by omega) _ _ _ V (lv_sub hl [0, 1, 2] rfl)
  exact L_1 _ 0 af10 (by omega) (fun i h => absurd h (Nat.not_lt_zero _)) (Nat.lt_succ_self _) _ _ _ V (lv_sub hl [0, 1, 2] rfl)
