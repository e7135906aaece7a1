def q_s_blastZ_f (T : Nat → ClassId) (fa : Nat → Int32) (a0 : Nat) (j : Nat) (pl : Int32) (an : Nat) (am : Int32) (al : Int32) (ao : Int32) (au : Int32) (a1 : Nat) (a2 : Nat) (a3 : Nat) (a4 : Nat) (a5 : Nat) (a6 : Nat) (a7 : Nat) (a8 : Nat) (a9 : Nat) (a10 : Nat) (af1 : Nat → Int32) (af9 : Nat → Int32) : Option Value → va_W → Prop := fun rr ww => (∃ (z : Int32), rr = some (.int z) ∧ ww = [(a0, .inr (5, [.int (nI an), .int am, .int al, .int ao, .int au, .ref a1, .ref a2, .ref a3, .ref a4, .ref a5, .ref a6, .ref a7, .ref a8, .ref a9, .ref a10])), (a1, .inl (T 0, 10, .inl af1)), (a9, .inl (T 0, 10, .inl af9))] ∧ z = bsF fa pl j an)
set_option maxHeartbeats 4000000 in
set_option maxRecDepth 100000 in
theorem s_blastZ_f (l : Launch) (D : va_G) (T : Nat → ClassId) (fa : Nat → Int32) (a0 : Nat) (j : Nat) (pl : Int32) (an : Nat) (am : Int32) (al : Int32) (ao : Int32) (au : Int32) (a1 : Nat) (a2 : Nat) (a3 : Nat) (a4 : Nat) (a5 : Nat) (a6 : Nat) (a7 : Nat) (a8 : Nat) (a9 : Nat) (a10 : Nat) (af1 : Nat → Int32) (af9 : Nat → Int32) (h_n : an ≤ 10) (h_s1 : ∀ i, i < an → af1 i = fa (4 + i)) (h_s9 : ∀ i, i < an → af9 i = fa (84 + i)) : Ct l yX5_blastOn cX5_blastOn 5 (some .int) 1 0 0 D T [.ref a0, .int (nI j), .int pl] [(a0, .inr (5, [.int (nI an), .int am, .int al, .int ao, .int au, .ref a1, .ref a2, .ref a3, .ref a4, .ref a5, .ref a6, .ref a7, .ref a8, .ref a9, .ref a10])), (a1, .inl (T 0, 10, .inl af1)), (a9, .inl (T 0, 10, .inl af9))] (q_s_blastZ_f T fa a0 j pl an am al ao au a1 a2 a3 a4 a5 a6 a7 a8 a9 a10 af1 af9) := by
  refine Ct.of (cc := cX5_blastOn) (maxL := 5) (ret := (some .int)) (by decide) (Nat.le_of_ble_eq_true rfl) ?_
  intro p e s m args below meth c A ls hC hnm V hl
  obtain ⟨hx, hb, hr, hml, hown, hts, hlocks⟩ := id hC
  generalize hH : s.heap = H at V ⊢
  clear hH
  have hl : lv_has ls 5 [(0, .ref a0), (1, .int (nI j)), (2, .int pl)] := hl
  generalize hlo : ([] : List Loc) = locs at V ⊢
  clear hlo
  refine lv_iconst (v := (nI 0)) hx hb dX5_blastOn_0 (by decide +kernel) ?_
  refine lv_istore_n (lv' := [(3, .int (nI 0)), (0, .ref a0), (1, .int (nI j)), (2, .int pl)]) hx hb dX5_blastOn_1 rfl hl (by decide) rfl (fun ls hl => ?_)
  refine lv_iconst (v := (nI 0)) hx hb dX5_blastOn_2 (by decide +kernel) ?_
  refine lv_istore (lv' := [(4, .int (nI 0)), (3, .int (nI 0)), (0, .ref a0), (1, .int (nI j)), (2, .int pl)]) hx hb dX5_blastOn_3 hl (by decide) rfl (fun ls hl => ?_)
  have L_1 : ∀ (fu : Nat) (k5 : Nat) (x3 : Int32), k5 ≤ an → x3 = bsF fa pl j k5 → an - k5 < fu → ∀ (H : Heap) (locs : List Loc) (ls : Array Slot), gW D T A s [(a0, .inr (5, [.int (nI an), .int am, .int al, .int ao, .int au, .ref a1, .ref a2, .ref a3, .ref a4, .ref a5, .ref a6, .ref a7, .ref a8, .ref a9, .ref a10])), (a1, .inl (T 0, 10, .inl af1)), (a9, .inl (T 0, 10, .inl af9))] H locs → lv_has ls 5 [(4, .int (nI k5)), (3, .int x3), (0, .ref a0), (1, .int (nI j)), (2, .int pl)] → W p l e (rmD 1 0 0) s m args below meth c H locs 0 0 (MQ below (gQ D A (q_s_blastZ_f T fa a0 j pl an am al ao au a1 a2 a3 a4 a5 a6 a7 a8 a9 a10 af1 af9)) args s 0 0 A) (F0 m 5 ls []) := by
    intro fu_5
    induction fu_5 with
    | zero => intro k5 x3 hk5 hx3 hmu; exact absurd hmu (Nat.not_lt_zero _)
    | succ fu_5 ih_5 =>
      intro k5 x3 hk5 hx3 hmu_5 H locs ls V hl
      refine lv_iload hx hb dX5_blastOn_5 (lv_at hl 0 rfl) ?_
      refine lv_aload_n hx hb dX5_blastOn_7 rfl (lv_at hl 2 rfl) ?_
      refine g_get hC V (ci := 5) uwX5 0 rfl rfl 0 (by decide) w_33 rfl rfl dX5_blastOn_8 ?_
      refine lv_icmp_ge (tgt := 50) hx hb dX5_blastOn_11 (by decide) (fun c_2 => ?_) (fun c_2 => ?_)
      · skip
        have c_2 := b_le (by omega) (by omega) c_2
        refine lv_iload_n hx hb dX5_blastOn_50 rfl (lv_at hl 1 rfl) ?_
        exact g_iret (Qr := (q_s_blastZ_f T fa a0 j pl an am al ao au a1 a2 a3 a4 a5 a6 a7 a8 a9 a10 af1 af9)) hC V ⟨(Nat.le_of_ble_eq_true rfl), (Nat.le_of_ble_eq_true rfl)⟩ ⟨x3, rfl, rfl, (by rw [hx3]; congr 1; omega)⟩ dX5_blastOn_51
      · skip
        have c_2 := b_nle (by omega) (by omega) c_2
        refine lv_aload_n hx hb dX5_blastOn_14 rfl (lv_at hl 2 rfl) ?_
        refine g_get hC V (ci := 5) uwX5 0 rfl rfl 13 (by decide) w_82 rfl rfl dX5_blastOn_15 ?_
        refine lv_iload hx hb dX5_blastOn_18 (lv_at hl 0 rfl) ?_
        refine g_iald hC V 2 rfl (vp_in_nI (by omega) (by omega)) (v := (af9 k5)) (congrArg _ (nI_clamp (by omega))) dX5_blastOn_20 ?_
        refine lv_iload_n hx hb dX5_blastOn_21 rfl (lv_at hl 3 rfl) ?_
        refine lv_icmp_ne (tgt := 44) hx hb dX5_blastOn_22 (by decide) (fun c_3 => ?_) (fun c_3 => ?_)
        · skip
          refine lv_iinc (v := (nI (k5 + 1))) (lv' := [(4, .int (nI (k5 + 1))), (3, .int x3), (0, .ref a0), (1, .int (nI j)), (2, .int pl)]) hx hb dX5_blastOn_44 hl (k := 0) rfl (nI_1 _) (by decide) rfl (fun ls hl => ?_)
          refine lv_goto (tgt := 5) hx hb dX5_blastOn_47 (by decide) ?_
          exact ih_5 (k5 + 1) x3 (by omega) (by rw [hx3]; exact bz_n (fun q => c_3 ((h_s9 _ (by omega)).trans q.2))) (by omega) _ _ _ V (lv_sub hl [0, 1, 2, 3, 4] rfl)
        · skip
          refine lv_iload_n hx hb dX5_blastOn_25 rfl (lv_at hl 4 rfl) ?_
          refine lv_iload hx hb dX5_blastOn_26 (lv_at hl 0 rfl) ?_
          refine g_callSNU (nA := 2) (host := RX7) hC V hl.1 (c_isIn_f l D T pl k5) w_472 (List.mem_of_getElem? (i := 13) rfl) w_2 w_471 (by decide +kernel) rfl ⟨(Nat.le_of_ble_eq_true rfl), (Nat.le_of_ble_eq_true rfl)⟩ [] rfl rfl (Nat.le_of_ble_eq_true rfl) dX5_blastOn_28 ⟨(Nat.le_of_ble_eq_true rfl), (Nat.le_of_ble_eq_true rfl)⟩ rfl (fun r w1 H locs hQ V => ?_)
          rcases hQ with ⟨rfl, rfl, f_4⟩ | ⟨rfl, rfl, f_5⟩
          · have V : gW D T A s [(a0, .inr (5, [.int (nI an), .int am, .int al, .int ao, .int au, .ref a1, .ref a2, .ref a3, .ref a4, .ref a5, .ref a6, .ref a7, .ref a8, .ref a9, .ref a10])), (a1, .inl (T 0, 10, .inl af1)), (a9, .inl (T 0, 10, .inl af9))] H locs := V _ [] rfl rfl rfl (by decide +kernel) rfl
            show W p l e _ s m args below meth c H locs _ _ _ (F0 m 31 ls [.int (nI 1)])
            refine lv_if_eq (tgt := 44) hx hb dX5_blastOn_31 (by decide) (fun c => absurd (show (nI 1) = 0 from c) (by decide +kernel)) (fun _ => ?_)
            refine lv_iload_n hx hb dX5_blastOn_34 rfl (lv_at hl 1 rfl) ?_
            refine lv_aload_n hx hb dX5_blastOn_35 rfl (lv_at hl 2 rfl) ?_
            refine g_get hC V (ci := 5) uwX5 0 rfl rfl 5 (by decide) w_51 rfl rfl dX5_blastOn_36 ?_
            refine lv_iload hx hb dX5_blastOn_39 (lv_at hl 0 rfl) ?_
            refine g_iald hC V 1 rfl (vp_in_nI (by omega) (by omega)) (v := (af1 k5)) (congrArg _ (nI_clamp (by omega))) dX5_blastOn_41 ?_
            refine lv_iadd hx hb dX5_blastOn_42 ?_
            refine lv_istore_n (lv' := [(3, .int (x3 + (af1 k5))), (4, .int (nI k5)), (0, .ref a0), (1, .int (nI j)), (2, .int pl)]) hx hb dX5_blastOn_43 rfl hl (by decide) rfl (fun ls hl => ?_)
            refine lv_iinc (v := (nI (k5 + 1))) (lv' := [(4, .int (nI (k5 + 1))), (3, .int (x3 + (af1 k5))), (0, .ref a0), (1, .int (nI j)), (2, .int pl)]) hx hb dX5_blastOn_44 hl (k := 1) rfl (nI_1 _) (by decide) rfl (fun ls hl => ?_)
            refine lv_goto (tgt := 5) hx hb dX5_blastOn_47 (by decide) ?_
            exact ih_5 (k5 + 1) (x3 + (af1 k5)) (by omega) (by rw [hx3]; exact (by rw [h_s1 _ (by omega)]; exact bz_y f_4 ((h_s9 _ (by omega)).symm.trans c_3))) (by omega) _ _ _ V (lv_sub hl [0, 1, 2, 3, 4] rfl)
          · have V : gW D T A s [(a0, .inr (5, [.int (nI an), .int am, .int al, .int ao, .int au, .ref a1, .ref a2, .ref a3, .ref a4, .ref a5, .ref a6, .ref a7, .ref a8, .ref a9, .ref a10])), (a1, .inl (T 0, 10, .inl af1)), (a9, .inl (T 0, 10, .inl af9))] H locs := V _ [] rfl rfl rfl (by decide +kernel) rfl
            show W p l e _ s m args below meth c H locs _ _ _ (F0 m 31 ls [.int (nI 0)])
            refine lv_if_eq (tgt := 44) hx hb dX5_blastOn_31 (by decide) (fun _ => ?_) (fun c => absurd (show (nI 0) = 0 by decide +kernel) c)
            refine lv_iinc (v := (nI (k5 + 1))) (lv' := [(4, .int (nI (k5 + 1))), (3, .int x3), (0, .ref a0), (1, .int (nI j)), (2, .int pl)]) hx hb dX5_blastOn_44 hl (k := 0) rfl (nI_1 _) (by decide) rfl (fun ls hl => ?_)
            refine lv_goto (tgt := 5) hx hb dX5_blastOn_47 (by decide) ?_
            exact ih_5 (k5 + 1) x3 (by omega) (by rw [hx3]; exact bz_n (fun q => f_5 q.1)) (by omega) _ _ _ V (lv_sub hl [0, 1, 2, 3, 4] rfl)
  exact L_1 _ 0 (nI 0) (by omega) rfl (Nat.lt_succ_self _) _ _ _ V (lv_sub hl [0, 1, 2, 3, 4] rfl)

def q_e_weigh_f (T : Nat → ClassId) (fa : Nat → Int32) (e0 : Nat) (a0 : Nat) (e1 : Nat) (e2 : Nat) (em : Nat) (e3 : Nat) (e4 : Nat) (e5 : Nat) (e6 : Nat) (ef : Nat → Int32) (an : Nat) (am : Int32) (al : Int32) (ao : Int32) (au : Int32) (a1 : Nat) (a2 : Nat) (a3 : Nat) (a4 : Nat) (a5 : Nat) (a6 : Nat) (a7 : Nat) (a8 : Nat) (a9 : Nat) (a10 : Nat) (af1 : Nat → Int32) (af2 : Nat → Int32) (af9 : Nat → Int32) : Option Value → va_W → Prop := fun rr ww => (∃ (g : Nat → Int32), rr = none ∧ ww = [(e0, .inr (4, [.ref e1, .ref e2, .int (nI em), .ref e3, .ref e4, .ref e5, .ref e6])), (e6, .inl (T 0, 24, .inl g)), (a0, .inr (5, [.int (nI an), .int am, .int al, .int ao, .int au, .ref a1, .ref a2, .ref a3, .ref a4, .ref a5, .ref a6, .ref a7, .ref a8, .ref a9, .ref a10])), (a1, .inl (T 0, 10, .inl af1)), (a2, .inl (T 0, 10, .inl af2)), (a9, .inl (T 0, 10, .inl af9))] ∧ CHW an fa g (2 ^ an) 0)
set_option maxHeartbeats 4000000 in
set_option maxRecDepth 100000 in
theorem e_weigh_f (l : Launch) (D : va_G) (T : Nat → ClassId) (fa : Nat → Int32) (e0 : Nat) (a0 : Nat) (e1 : Nat) (e2 : Nat) (em : Nat) (e3 : Nat) (e4 : Nat) (e5 : Nat) (e6 : Nat) (ef : Nat → Int32) (an : Nat) (am : Int32) (al : Int32) (ao : Int32) (au : Int32) (a1 : Nat) (a2 : Nat) (a3 : Nat) (a4 : Nat) (a5 : Nat) (a6 : Nat) (a7 : Nat) (a8 : Nat) (a9 : Nat) (a10 : Nat) (af1 : Nat → Int32) (af2 : Nat → Int32) (af9 : Nat → Int32) (h_n : an ≤ 3) (h_s1 : ∀ i, i < an → af1 i = fa (4 + i)) (h_s2 : ∀ i, i < an → af2 i = fa (14 + i)) (h_s9 : ∀ i, i < an → af9 i = fa (84 + i)) : Ct l yX4_weighChanges cX4_weighChanges 4 none 2 0 0 D T [.ref e0, .ref a0] [(e0, .inr (4, [.ref e1, .ref e2, .int (nI em), .ref e3, .ref e4, .ref e5, .ref e6])), (e6, .inl (T 0, 24, .inl ef)), (a0, .inr (5, [.int (nI an), .int am, .int al, .int ao, .int au, .ref a1, .ref a2, .ref a3, .ref a4, .ref a5, .ref a6, .ref a7, .ref a8, .ref a9, .ref a10])), (a1, .inl (T 0, 10, .inl af1)), (a2, .inl (T 0, 10, .inl af2)), (a9, .inl (T 0, 10, .inl af9))] (q_e_weigh_f T fa e0 a0 e1 e2 em e3 e4 e5 e6 ef an am al ao au a1 a2 a3 a4 a5 a6 a7 a8 a9 a10 af1 af2 af9) := by
  refine Ct.of (cc := cX4_weighChanges) (maxL := 4) (ret := none) (by decide) (Nat.le_of_ble_eq_true rfl) ?_
  intro p e s m args below meth c A ls hC hnm V hl
  obtain ⟨hx, hb, hr, hml, hown, hts, hlocks⟩ := id hC
  generalize hH : s.heap = H at V ⊢
  clear hH
  have hl : lv_has ls 4 [(0, .ref e0), (1, .ref a0)] := hl
  generalize hlo : ([] : List Loc) = locs at V ⊢
  clear hlo
  have hpw := pw3 h_n
  refine lv_iconst (v := (nI 0)) hx hb dX4_weighChanges_0 (by decide +kernel) ?_
  refine lv_istore_n (lv' := [(2, .int (nI 0)), (0, .ref e0), (1, .ref a0)]) hx hb dX4_weighChanges_1 rfl hl (by decide) rfl (fun ls hl => ?_)
  have L_1 : ∀ (fu : Nat) (k2 : Nat) (ga : Nat → Int32), k2 ≤ 2 ^ an → CHW an fa ga k2 0 → 2 ^ an - k2 < fu → ∀ (H : Heap) (locs : List Loc) (ls : Array Slot), gW D T A s [(e0, .inr (4, [.ref e1, .ref e2, .int (nI em), .ref e3, .ref e4, .ref e5, .ref e6])), (e6, .inl (T 0, 24, .inl ga)), (a0, .inr (5, [.int (nI an), .int am, .int al, .int ao, .int au, .ref a1, .ref a2, .ref a3, .ref a4, .ref a5, .ref a6, .ref a7, .ref a8, .ref a9, .ref a10])), (a1, .inl (T 0, 10, .inl af1)), (a2, .inl (T 0, 10, .inl af2)), (a9, .inl (T 0, 10, .inl af9))] H locs → lv_has ls 4 [(2, .int (nI k2)), (0, .ref e0), (1, .ref a0)] → W p l e (rmD 2 0 0) s m args below meth c H locs 0 0 (MQ below (gQ D A (q_e_weigh_f T fa e0 a0 e1 e2 em e3 e4 e5 e6 ef an am al ao au a1 a2 a3 a4 a5 a6 a7 a8 a9 a10 af1 af2 af9)) args s 0 0 A) (F0 m 2 ls []) := by
    intro fu_2
    induction fu_2 with
    | zero => intro k2 ga hk2 hc2 hmu; exact absurd hmu (Nat.not_lt_zero _)
    | succ fu_2 ih_2 =>
      intro k2 ga hk2 hc2 hmu_2 H locs ls V hl
      refine lv_iload_n hx hb dX4_weighChanges_2 rfl (lv_at hl 0 rfl) ?_
      refine lv_aload_n hx hb dX4_weighChanges_3 rfl (lv_at hl 2 rfl) ?_
      refine g_callVU (nA := 0) hC V hl.1 (s_everyone l D T a0 an am al ao au a1 a2 a3 a4 a5 a6 a7 a8 a9 a10 (by first | assumption | omega)) w_744 w_463 w_464 w_3 w_465 (by decide +kernel) rfl ⟨(Nat.le_of_ble_eq_true rfl), (Nat.le_of_ble_eq_true rfl)⟩ 2 (ci := 5) rfl rfl [2] rfl rfl (Nat.le_of_ble_eq_true rfl) dX4_weighChanges_4 ⟨(Nat.le_of_ble_eq_true rfl), (Nat.le_of_ble_eq_true rfl)⟩ rfl (fun r w1 H locs hQ V => ?_)
      obtain ⟨rfl, rfl⟩ := hQ
      have V : gW D T A s [(e0, .inr (4, [.ref e1, .ref e2, .int (nI em), .ref e3, .ref e4, .ref e5, .ref e6])), (e6, .inl (T 0, 24, .inl ga)), (a0, .inr (5, [.int (nI an), .int am, .int al, .int ao, .int au, .ref a1, .ref a2, .ref a3, .ref a4, .ref a5, .ref a6, .ref a7, .ref a8, .ref a9, .ref a10])), (a1, .inl (T 0, 10, .inl af1)), (a2, .inl (T 0, 10, .inl af2)), (a9, .inl (T 0, 10, .inl af9))] H locs := V _ [2] rfl rfl rfl (by decide +kernel) rfl
      show W p l e _ s m args below meth c H locs _ _ _ (F0 m 7 ls [.int (nI (2 ^ an - 1)), .int (nI k2)])
      refine lv_icmp_gt (tgt := 55) hx hb dX4_weighChanges_7 (by decide) (fun c_2 => ?_) (fun c_2 => ?_)
      · skip
        have c_2 := b_lt (by omega) (by omega) c_2
        exact g_vret (Qr := (q_e_weigh_f T fa e0 a0 e1 e2 em e3 e4 e5 e6 ef an am al ao au a1 a2 a3 a4 a5 a6 a7 a8 a9 a10 af1 af2 af9)) hC V ⟨(Nat.le_of_ble_eq_true rfl), (Nat.le_of_ble_eq_true rfl)⟩ ⟨ga, rfl, rfl, (by have q := hc2; rw [show k2 = 2 ^ an by omega] at q; exact q)⟩ dX4_weighChanges_55
      · skip
        have c_2 := b_nlt (by omega) (by omega) c_2
        refine lv_iconst (v := (nI 0)) hx hb dX4_weighChanges_10 (by decide +kernel) ?_
        refine lv_istore_n (lv' := [(3, .int (nI 0)), (2, .int (nI k2)), (0, .ref e0), (1, .ref a0)]) hx hb dX4_weighChanges_11 rfl hl (by decide) rfl (fun ls hl => ?_)
        have L_3 : ∀ (fu : Nat) (k12 : Nat) (gb : Nat → Int32), k12 ≤ an → CHW an fa gb k2 k12 → an - k12 < fu → ∀ (H : Heap) (locs : List Loc) (ls : Array Slot), gW D T A s [(e0, .inr (4, [.ref e1, .ref e2, .int (nI em), .ref e3, .ref e4, .ref e5, .ref e6])), (e6, .inl (T 0, 24, .inl gb)), (a0, .inr (5, [.int (nI an), .int am, .int al, .int ao, .int au, .ref a1, .ref a2, .ref a3, .ref a4, .ref a5, .ref a6, .ref a7, .ref a8, .ref a9, .ref a10])), (a1, .inl (T 0, 10, .inl af1)), (a2, .inl (T 0, 10, .inl af2)), (a9, .inl (T 0, 10, .inl af9))] H locs → lv_has ls 4 [(3, .int (nI k12)), (2, .int (nI k2)), (0, .ref e0), (1, .ref a0)] → W p l e (rmD 2 0 0) s m args below meth c H locs 0 0 (MQ below (gQ D A (q_e_weigh_f T fa e0 a0 e1 e2 em e3 e4 e5 e6 ef an am al ao au a1 a2 a3 a4 a5 a6 a7 a8 a9 a10 af1 af2 af9)) args s 0 0 A) (F0 m 12 ls []) := by
          intro fu_12
          induction fu_12 with
          | zero => intro k12 gb hk12 hc12 hmu; exact absurd hmu (Nat.not_lt_zero _)
          | succ fu_12 ih_12 =>
            intro k12 gb hk12 hc12 hmu_12 H locs ls V hl
            refine lv_iload_n hx hb dX4_weighChanges_12 rfl (lv_at hl 0 rfl) ?_
            refine lv_aload_n hx hb dX4_weighChanges_13 rfl (lv_at hl 3 rfl) ?_
            refine g_get hC V (ci := 5) uwX5 2 rfl rfl 0 (by decide) w_34 rfl rfl dX4_weighChanges_14 ?_
            refine lv_icmp_ge (tgt := 49) hx hb dX4_weighChanges_17 (by decide) (fun c_4 => ?_) (fun c_4 => ?_)
            · skip
              have c_4 := b_le (by omega) (by omega) c_4
              refine lv_iinc (v := (nI (k2 + 1))) (lv' := [(2, .int (nI (k2 + 1))), (3, .int (nI k12)), (0, .ref e0), (1, .ref a0)]) hx hb dX4_weighChanges_49 hl (k := 1) rfl (nI_1 _) (by decide) rfl (fun ls hl => ?_)
              refine lv_goto (tgt := 2) hx hb dX4_weighChanges_52 (by decide) ?_
              exact ih_2 (k2 + 1) gb (by omega) (chw_p hc12 (by omega)) (by omega) _ _ _ V (lv_sub hl [0, 2, 3] rfl)
            · skip
              have c_4 := b_nle (by omega) (by omega) c_4
              refine lv_aload_n hx hb dX4_weighChanges_20 rfl (lv_at hl 2 rfl) ?_
              refine g_get hC V (ci := 4) uwX4 0 rfl rfl 6 (by decide) w_719 rfl rfl dX4_weighChanges_21 ?_
              refine lv_iconst (v := (nI 3)) hx hb dX4_weighChanges_24 (by decide +kernel) ?_
              refine lv_iload_n hx hb dX4_weighChanges_25 rfl (lv_at hl 1 rfl) ?_
              refine lv_imul hx hb dX4_weighChanges_26 ?_
              refine g_vi (y := (nI (3 * k2))) (pk_mul _ _) ?_
              refine lv_iload_n hx hb dX4_weighChanges_27 rfl (lv_at hl 0 rfl) ?_
              refine lv_iadd hx hb dX4_weighChanges_28 ?_
              refine g_vi (y := (nI ((3 * k2) + k12))) (nI_add _ _) ?_
              refine lv_aload_n hx hb dX4_weighChanges_29 rfl (lv_at hl 3 rfl) ?_
              refine lv_iload_n hx hb dX4_weighChanges_30 rfl (lv_at hl 0 rfl) ?_
              refine lv_iload_n hx hb dX4_weighChanges_31 rfl (lv_at hl 1 rfl) ?_
              refine g_callVU (nA := 2) hC V hl.1 (s_blastZ_f l D T fa a0 k12 (nI k2) an am al ao au a1 a2 a3 a4 a5 a6 a7 a8 a9 a10 af1 af9 (by first | assumption | omega) (by first | assumption | omega) (by first | assumption | omega)) w_745 w_700 w_701 w_3 w_702 (by decide +kernel) rfl ⟨(Nat.le_of_ble_eq_true rfl), (Nat.le_of_ble_eq_true rfl)⟩ 2 (ci := 5) rfl rfl [2, 3, 5] rfl rfl (Nat.le_of_ble_eq_true rfl) dX4_weighChanges_32 ⟨(Nat.le_of_ble_eq_true rfl), (Nat.le_of_ble_eq_true rfl)⟩ rfl (fun r w1 H locs hQ V => ?_)
              obtain ⟨z_5, rfl, rfl, f_6⟩ := hQ
              have V : gW D T A s [(e0, .inr (4, [.ref e1, .ref e2, .int (nI em), .ref e3, .ref e4, .ref e5, .ref e6])), (e6, .inl (T 0, 24, .inl gb)), (a0, .inr (5, [.int (nI an), .int am, .int al, .int ao, .int au, .ref a1, .ref a2, .ref a3, .ref a4, .ref a5, .ref a6, .ref a7, .ref a8, .ref a9, .ref a10])), (a1, .inl (T 0, 10, .inl af1)), (a2, .inl (T 0, 10, .inl af2)), (a9, .inl (T 0, 10, .inl af9))] H locs := V _ [2, 0, 1] rfl rfl rfl (by decide +kernel) rfl
              show W p l e _ s m args below meth c H locs _ _ _ (F0 m 35 ls [.int z_5, .int (nI ((3 * k2) + k12)), .ref e6])
              refine lv_aload_n hx hb dX4_weighChanges_35 rfl (lv_at hl 3 rfl) ?_
              refine g_get hC V (ci := 5) uwX5 2 rfl rfl 6 (by decide) w_57 rfl rfl dX4_weighChanges_36 ?_
              refine lv_iload_n hx hb dX4_weighChanges_39 rfl (lv_at hl 0 rfl) ?_
              refine g_iald hC V 4 rfl (vp_in_nI (by omega) (by omega)) (v := (af2 k12)) (congrArg _ (nI_clamp (by omega))) dX4_weighChanges_40 ?_
              refine lv_isub hx hb dX4_weighChanges_41 ?_
              refine g_iast hC V 1 rfl (vp_in_nI (by omega) (by omega)) (f' := (upd gb ((3 * k2) + k12) (z_5 - (af2 k12)))) (by rw [nI_clamp (by omega)]) (ws' := [(e0, .inr (4, [.ref e1, .ref e2, .int (nI em), .ref e3, .ref e4, .ref e5, .ref e6])), (e6, .inl (T 0, 24, .inl (upd gb ((3 * k2) + k12) (z_5 - (af2 k12))))), (a0, .inr (5, [.int (nI an), .int am, .int al, .int ao, .int au, .ref a1, .ref a2, .ref a3, .ref a4, .ref a5, .ref a6, .ref a7, .ref a8, .ref a9, .ref a10])), (a1, .inl (T 0, 10, .inl af1)), (a2, .inl (T 0, 10, .inl af2)), (a9, .inl (T 0, 10, .inl af9))]) rfl dX4_weighChanges_42 (fun H locs V => ?_)
              refine lv_iinc (v := (nI (k12 + 1))) (lv' := [(3, .int (nI (k12 + 1))), (2, .int (nI k2)), (0, .ref e0), (1, .ref a0)]) hx hb dX4_weighChanges_43 hl (k := 0) rfl (nI_1 _) (by decide) rfl (fun ls hl => ?_)
              refine lv_goto (tgt := 12) hx hb dX4_weighChanges_46 (by decide) ?_
              exact ih_12 (k12 + 1) (upd gb ((3 * k2) + k12) (z_5 - (af2 k12))) (by omega) (chw_s hc12 h_n (by omega) (by rw [f_6, h_s2 _ (by omega)])) (by omega) _ _ _ V (lv_sub hl [0, 1, 2, 3] rfl)
        exact L_3 _ 0 ga (by omega) hc2 (Nat.lt_succ_self _) _ _ _ V (lv_sub hl [0, 1, 2, 3] rfl)
  exact L_1 _ 0 ef (by omega) chw_0 (Nat.lt_succ_self _) _ _ _ V (lv_sub hl [0, 1, 2] rfl)

def q_e_packed_f (T : Nat → ClassId) (i : Nat) (x_ : Nat) (y_ : Nat) : Option Value → va_W → Prop := fun rr ww => (rr = some (.long (Int64.ofNat (8192 ^ i * (32 * x_ + y_)))) ∧ ww = [])
set_option maxHeartbeats 4000000 in
set_option maxRecDepth 100000 in
theorem e_packed_f (l : Launch) (D : va_G) (T : Nat → ClassId) (i : Nat) (x_ : Nat) (y_ : Nat) (h_x : x_ < 256) (h_y : y_ < 32) (h_i : i < 3) : Ct l yX4_packed cX4_packed 3 (some .long) 0 0 0 D T [.int (nI i), .int (nI x_), .int (nI y_)] [] (q_e_packed_f T i x_ y_) := by
  refine Ct.of (cc := cX4_packed) (maxL := 3) (ret := (some .long)) (by decide) (Nat.le_of_ble_eq_true rfl) ?_
  intro p e s m args below meth c A ls hC hnm V hl
  obtain ⟨hx, hb, hr, hml, hown, hts, hlocks⟩ := id hC
  generalize hH : s.heap = H at V ⊢
  clear hH
  have hl : lv_has ls 3 [(0, .int (nI i)), (1, .int (nI x_)), (2, .int (nI y_))] := hl
  generalize hlo : ([] : List Loc) = locs at V ⊢
  clear hlo
  refine lv_iload_n hx hb dX4_packed_0 rfl (lv_at hl 1 rfl) ?_
  refine lv_iconst (v := (nI 5)) hx hb dX4_packed_1 (by decide +kernel) ?_
  refine lv_ishl hx hb dX4_packed_2 ?_
  refine lv_iload_n hx hb dX4_packed_3 rfl (lv_at hl 2 rfl) ?_
  refine lv_ior hx hb dX4_packed_4 ?_
  refine lv_i2l (v := (((nI x_) <<< ((nI 5) &&& 31)) ||| (nI y_)).toInt64) hx hb dX4_packed_5 rfl ?_
  refine lv_iload_n hx hb dX4_packed_6 rfl (lv_at hl 0 rfl) ?_
  refine lv_bipush (v := (nI 13)) hx hb dX4_packed_7 (by decide +kernel) ?_
  refine lv_imul hx hb dX4_packed_9 ?_
  refine g_vi (y := (nI (i * 13))) (pk_mul _ _) ?_
  refine lv_lshl hx hb dX4_packed_10 rfl ?_
  refine g_vl (y := Int64.ofNat (8192 ^ i * (32 * x_ + y_))) (pa_eq h_x h_y h_i) ?_
  exact g_lret (Qr := (q_e_packed_f T i x_ y_)) hC V ⟨(Nat.le_of_ble_eq_true rfl), (Nat.le_of_ble_eq_true rfl)⟩ ⟨rfl, rfl⟩ dX4_packed_11

def q_e_meet_f (T : Nat → ClassId) (zn : Nat) (V_ : List (List Nat)) (x_ : List Nat) (e0 : Nat) (v : Int64) (e1 : Nat) (e2 : Nat) (em : Nat) (e3 : Nat) (e4 : Nat) (e5 : Nat) (e6 : Nat) (ea : Nat → Int64) (eb : Nat → Int32) : Option Value → va_W → Prop := fun rr ww => (∃ (em2 : Nat) (g1 : Nat → Int64) (g2 : Nat → Int32), rr = none ∧ ww = [(e0, .inr (4, [.ref e1, .ref e2, .int (nI em2), .ref e3, .ref e4, .ref e5, .ref e6])), (e1, .inl (T 1, 3001, .inr (.inl g1))), (e2, .inl (T 0, 8192, .inl g2))] ∧ HT (VS zn) cC hsC (inz V_ x_) em2 g1 g2)
set_option maxHeartbeats 4000000 in
set_option maxRecDepth 100000 in
theorem e_meet_f (l : Launch) (D : va_G) (T : Nat → ClassId) (zn : Nat) (V_ : List (List Nat)) (x_ : List Nat) (e0 : Nat) (v : Int64) (e1 : Nat) (e2 : Nat) (em : Nat) (e3 : Nat) (e4 : Nat) (e5 : Nat) (e6 : Nat) (ea : Nat → Int64) (eb : Nat → Int32) (h_ht : HT (VS zn) cC hsC V_ em ea eb) (h_x : VS zn x_) (h_v : v = cC x_) (h_3 : zn ≤ 3) : Ct l yX4_meet cX4_meet 5 none 0 0 0 D T [.ref e0, .long v] [(e0, .inr (4, [.ref e1, .ref e2, .int (nI em), .ref e3, .ref e4, .ref e5, .ref e6])), (e1, .inl (T 1, 3001, .inr (.inl ea))), (e2, .inl (T 0, 8192, .inl eb))] (q_e_meet_f T zn V_ x_ e0 v e1 e2 em e3 e4 e5 e6 ea eb) := by
  refine Ct.of (cc := cX4_meet) (maxL := 5) (ret := none) (by decide) (Nat.le_of_ble_eq_true rfl) ?_
  intro p e s m args below meth c A ls hC hnm V hl
  obtain ⟨hx, hb, hr, hml, hown, hts, hlocks⟩ := id hC
  generalize hH : s.heap = H at V ⊢
  clear hH
  have hl : lv_has ls 5 [(0, .ref e0), (1, .long v)] := hl
  generalize hlo : ([] : List Loc) = locs at V ⊢
  clear hlo
  have hhs := (hsC_eq v).2
  have h_m := h_ht.2.1
  have h_sl : ∀ i, i < 8192 → bd (eb i) (em + 1) := fun i hi => ht_bd h_ht hi
  refine lv_lload_n hx hb dX4_meet_0 rfl (lv_at hl 1 rfl) ?_
  refine lv_ldc2 (v := (-7046029254386353131)) hx hb hown (hts _ w_758) dX4_meet_1 ?_
  refine lv_lmul hx hb dX4_meet_4 ?_
  refine lv_bipush (v := (nI 51)) hx hb dX4_meet_5 (by decide +kernel) ?_
  refine lv_lushr hx hb dX4_meet_7 rfl ?_
  refine lv_l2i hx hb dX4_meet_8 rfl ?_
  refine g_vi (y := nI (hsC v)) (hsC_eq v).1 ?_
  refine lv_istore_n (lv' := [(3, .int (nI (hsC v))), (0, .ref e0), (1, .long v)]) hx hb dX4_meet_9 rfl hl (by decide) rfl (fun ls hl => ?_)
  refine lv_iconst (v := (nI 0)) hx hb dX4_meet_10 (by decide +kernel) ?_
  refine lv_istore (lv' := [(4, .int (nI 0)), (3, .int (nI (hsC v))), (0, .ref e0), (1, .long v)]) hx hb dX4_meet_11 hl (by decide) rfl (fun ls hl => ?_)
  have L_1 : ∀ (fu : Nat) (k13 : Nat) (sl : Nat), k13 ≤ 8192 → sl = (hsC v + k13) % 8192 → PK cC V_ eb x_ (hsC v) k13 → 8192 - k13 < fu → ∀ (H : Heap) (locs : List Loc) (ls : Array Slot), gW D T A s [(e0, .inr (4, [.ref e1, .ref e2, .int (nI em), .ref e3, .ref e4, .ref e5, .ref e6])), (e1, .inl (T 1, 3001, .inr (.inl ea))), (e2, .inl (T 0, 8192, .inl eb))] H locs → lv_has ls 5 [(4, .int (nI k13)), (3, .int (nI sl)), (0, .ref e0), (1, .long v)] → W p l e (rmD 0 0 0) s m args below meth c H locs 0 0 (MQ below (gQ D A (q_e_meet_f T zn V_ x_ e0 v e1 e2 em e3 e4 e5 e6 ea eb)) args s 0 0 A) (F0 m 13 ls []) := by
    intro fu_13
    induction fu_13 with
    | zero => intro k13 sl hk13 hsl hpk hmu; exact absurd hmu (Nat.not_lt_zero _)
    | succ fu_13 ih_13 =>
      intro k13 sl hk13 hsl hpk hmu_13 H locs ls V hl
      refine lv_iload hx hb dX4_meet_13 (lv_at hl 0 rfl) ?_
      refine lv_sipush (v := (nI 8192)) hx hb dX4_meet_15 (by decide +kernel) ?_
      refine lv_icmp_ge (tgt := 72) hx hb dX4_meet_18 (by decide) (fun c_2 => ?_) (fun c_2 => ?_)
      · skip
        have c_2 := b_le (by omega) (by omega) c_2
        exact absurd c_2 (pk_end h_ht hpk hhs)
      · skip
        have c_2 := b_nle (by omega) (by omega) c_2
        refine lv_aload_n hx hb dX4_meet_21 rfl (lv_at hl 2 rfl) ?_
        refine g_get hC V (ci := 4) uwX4 0 rfl rfl 1 (by decide) w_714 rfl rfl dX4_meet_22 ?_
        refine lv_iload_n hx hb dX4_meet_25 rfl (lv_at hl 1 rfl) ?_
        obtain ⟨j_3, hj_3, ej_3⟩ := bd_ex (h_sl sl (by omega))
        refine g_iald hC V 2 rfl (vp_in_nI (by omega) (by omega)) (v := (nI j_3)) (by rw [nI_clamp (by omega)]; exact ej_3) dX4_meet_26 ?_
        refine lv_if_eq (tgt := 72) hx hb dX4_meet_27 (by decide) (fun c_4 => ?_) (fun c_4 => ?_)
        · skip
          rw [show (0 : Int32) = nI 0 from rfl] at c_4
          have c_4 := b_eq (by omega) (by omega) c_4
          refine lv_aload_n hx hb dX4_meet_72 rfl (lv_at hl 2 rfl) ?_
          refine g_get hC V (ci := 4) uwX4 0 rfl rfl 2 (by decide) w_715 rfl rfl dX4_meet_73 ?_
          refine lv_sipush (v := (nI 3000)) hx hb dX4_meet_76 (by decide +kernel) ?_
          refine lv_icmp_gt (tgt := 112) hx hb dX4_meet_79 (by decide) (fun c_5 => ?_) (fun c_5 => ?_)
          · skip
            have c_5 := b_lt (by omega) (by omega) c_5
            exact g_vret (Qr := (q_e_meet_f T zn V_ x_ e0 v e1 e2 em e3 e4 e5 e6 ea eb)) hC V ⟨(Nat.le_of_ble_eq_true rfl), (Nat.le_of_ble_eq_true rfl)⟩ ⟨em, ea, eb, rfl, rfl, (ht_f h_ht (by omega))⟩ dX4_meet_112
          · skip
            have c_5 := b_nlt (by omega) (by omega) c_5
            refine lv_aload_n hx hb dX4_meet_82 rfl (lv_at hl 2 rfl) ?_
            refine g_get hC V (ci := 4) uwX4 0 rfl rfl 0 (by decide) w_713 rfl rfl dX4_meet_83 ?_
            refine lv_aload_n hx hb dX4_meet_86 rfl (lv_at hl 2 rfl) ?_
            refine g_get hC V (ci := 4) uwX4 0 rfl rfl 2 (by decide) w_715 rfl rfl dX4_meet_87 ?_
            refine lv_lload_n hx hb dX4_meet_90 rfl (lv_at hl 3 rfl) ?_
            refine g_last hC V 1 rfl (vp_in_nI (by omega) (by omega)) (f' := (vp_updL ea em v)) (by rw [nI_clamp (by omega)]) (ws' := [(e0, .inr (4, [.ref e1, .ref e2, .int (nI em), .ref e3, .ref e4, .ref e5, .ref e6])), (e1, .inl (T 1, 3001, .inr (.inl (vp_updL ea em v)))), (e2, .inl (T 0, 8192, .inl eb))]) rfl dX4_meet_91 (fun H locs V => ?_)
            refine lv_aload_n hx hb dX4_meet_92 rfl (lv_at hl 2 rfl) ?_
            refine lv_dup hx hb dX4_meet_93 rfl ?_
            refine g_get hC V (ci := 4) uwX4 0 rfl rfl 2 (by decide) w_715 rfl rfl dX4_meet_94 ?_
            refine lv_iconst (v := (nI 1)) hx hb dX4_meet_97 (by decide +kernel) ?_
            refine lv_iadd hx hb dX4_meet_98 ?_
            refine g_vi (y := (nI (em + 1))) (nI_add _ _) ?_
            refine g_put hC V (ci := 4) uwX4 tyX4 tyX4_ok nmX4 0 rfl rfl 2 (by decide) w_715 rfl rfl rfl rfl (Nat.le_of_ble_eq_true rfl) (ws' := [(e0, .inr (4, [.ref e1, .ref e2, .int (nI (em + 1)), .ref e3, .ref e4, .ref e5, .ref e6])), (e1, .inl (T 1, 3001, .inr (.inl (vp_updL ea em v)))), (e2, .inl (T 0, 8192, .inl eb))]) rfl dX4_meet_99 (fun H locs V => ?_)
            refine lv_aload_n hx hb dX4_meet_102 rfl (lv_at hl 2 rfl) ?_
            refine g_get hC V (ci := 4) uwX4 0 rfl rfl 1 (by decide) w_714 rfl rfl dX4_meet_103 ?_
            refine lv_iload_n hx hb dX4_meet_106 rfl (lv_at hl 1 rfl) ?_
            refine lv_aload_n hx hb dX4_meet_107 rfl (lv_at hl 2 rfl) ?_
            refine g_get hC V (ci := 4) uwX4 0 rfl rfl 2 (by decide) w_715 rfl rfl dX4_meet_108 ?_
            refine g_iast hC V 2 rfl (vp_in_nI (by omega) (by omega)) (f' := (upd eb sl (nI (em + 1)))) (by rw [nI_clamp (by omega)]) (ws' := [(e0, .inr (4, [.ref e1, .ref e2, .int (nI (em + 1)), .ref e3, .ref e4, .ref e5, .ref e6])), (e1, .inl (T 1, 3001, .inr (.inl (vp_updL ea em v)))), (e2, .inl (T 0, 8192, .inl (upd eb sl (nI (em + 1)))))]) rfl dX4_meet_111 (fun H locs V => ?_)
            exact g_vret (Qr := (q_e_meet_f T zn V_ x_ e0 v e1 e2 em e3 e4 e5 e6 ea eb)) hC V ⟨(Nat.le_of_ble_eq_true rfl), (Nat.le_of_ble_eq_true rfl)⟩ ⟨(em + 1), (vp_updL ea em v), (upd eb sl (nI (em + 1))), rfl, rfl, (ht_put h_ht h_x (by rw [h_v]) hpk (by omega) hsl (ej_3.trans (by rw [c_4])) (by omega) h_v)⟩ dX4_meet_112
        · skip
          rw [show (0 : Int32) = nI 0 from rfl] at c_4
          have c_4 := b_ne (by omega) (by omega) c_4
          refine lv_aload_n hx hb dX4_meet_30 rfl (lv_at hl 2 rfl) ?_
          refine g_get hC V (ci := 4) uwX4 0 rfl rfl 0 (by decide) w_713 rfl rfl dX4_meet_31 ?_
          refine lv_aload_n hx hb dX4_meet_34 rfl (lv_at hl 2 rfl) ?_
          refine g_get hC V (ci := 4) uwX4 0 rfl rfl 1 (by decide) w_714 rfl rfl dX4_meet_35 ?_
          refine lv_iload_n hx hb dX4_meet_38 rfl (lv_at hl 1 rfl) ?_
          refine g_iald hC V 2 rfl (vp_in_nI (by omega) (by omega)) (v := (nI j_3)) (by rw [nI_clamp (by omega)]; exact ej_3) dX4_meet_39 ?_
          refine lv_iconst (v := (nI 1)) hx hb dX4_meet_40 (by decide +kernel) ?_
          refine lv_isub hx hb dX4_meet_41 ?_
          refine g_vi (y := (nI (j_3 - 1))) (nI_sub (by omega)) ?_
          refine g_lald hC V 1 rfl (vp_in_nI (by omega) (by omega)) (v := (ea (j_3 - 1))) (congrArg _ (nI_clamp (by omega))) dX4_meet_42 ?_
          refine lv_lload_n hx hb dX4_meet_43 rfl (lv_at hl 3 rfl) ?_
          refine W.lcmp hx hb dX4_meet_44 ?_
          refine lv_if_ne (tgt := 49) hx hb dX4_meet_45 (by decide) (fun c_6 => ?_) (fun c_6 => ?_)
          · skip
            refine lv_iload_n hx hb dX4_meet_49 rfl (lv_at hl 1 rfl) ?_
            refine lv_iconst (v := (nI 1)) hx hb dX4_meet_50 (by decide +kernel) ?_
            refine lv_iadd hx hb dX4_meet_51 ?_
            refine g_vi (y := (nI (sl + 1))) (nI_add _ _) ?_
            refine lv_sipush (v := (nI 8192)) hx hb dX4_meet_52 (by decide +kernel) ?_
            refine lv_icmp_ge (tgt := 64) hx hb dX4_meet_55 (by decide) (fun c_7 => ?_) (fun c_7 => ?_)
            · skip
              have c_7 := b_le (by omega) (by omega) c_7
              refine lv_iconst (v := (nI 0)) hx hb dX4_meet_64 (by decide +kernel) ?_
              refine lv_istore_n (lv' := [(3, .int (nI 0)), (4, .int (nI k13)), (0, .ref e0), (1, .long v)]) hx hb dX4_meet_65 rfl hl (by decide) rfl (fun ls hl => ?_)
              refine lv_iinc (v := (nI (k13 + 1))) (lv' := [(4, .int (nI (k13 + 1))), (3, .int (nI 0)), (0, .ref e0), (1, .long v)]) hx hb dX4_meet_66 hl (k := 1) rfl (nI_1 _) (by decide) rfl (fun ls hl => ?_)
              refine lv_goto (tgt := 13) hx hb dX4_meet_69 (by decide) ?_
              exact ih_13 (k13 + 1) 0 (by omega) (by omega) (pk_s h_ht hpk hsl ej_3 c_4 (by omega) h_v (fun r => c_6 ((lg_cmp_eq _ _).mpr r))) (by omega) _ _ _ V (lv_sub hl [0, 1, 2, 3] rfl)
            · skip
              have c_7 := b_nle (by omega) (by omega) c_7
              refine lv_iload_n hx hb dX4_meet_58 rfl (lv_at hl 1 rfl) ?_
              refine lv_iconst (v := (nI 1)) hx hb dX4_meet_59 (by decide +kernel) ?_
              refine lv_iadd hx hb dX4_meet_60 ?_
              refine g_vi (y := (nI (sl + 1))) (nI_add _ _) ?_
              refine lv_goto (tgt := 65) hx hb dX4_meet_61 (by decide) ?_
              refine lv_istore_n (lv' := [(3, .int (nI (sl + 1))), (4, .int (nI k13)), (0, .ref e0), (1, .long v)]) hx hb dX4_meet_65 rfl hl (by decide) rfl (fun ls hl => ?_)
              refine lv_iinc (v := (nI (k13 + 1))) (lv' := [(4, .int (nI (k13 + 1))), (3, .int (nI (sl + 1))), (0, .ref e0), (1, .long v)]) hx hb dX4_meet_66 hl (k := 1) rfl (nI_1 _) (by decide) rfl (fun ls hl => ?_)
              refine lv_goto (tgt := 13) hx hb dX4_meet_69 (by decide) ?_
              exact ih_13 (k13 + 1) (sl + 1) (by omega) (by omega) (pk_s h_ht hpk hsl ej_3 c_4 (by omega) h_v (fun r => c_6 ((lg_cmp_eq _ _).mpr r))) (by omega) _ _ _ V (lv_sub hl [0, 1, 2, 3] rfl)
          · skip
            exact g_vret (Qr := (q_e_meet_f T zn V_ x_ e0 v e1 e2 em e3 e4 e5 e6 ea eb)) hC V ⟨(Nat.le_of_ble_eq_true rfl), (Nat.le_of_ble_eq_true rfl)⟩ ⟨em, ea, eb, rfl, rfl, (ht_y (cC_inj h_3) h_ht h_x c_4 (by omega) h_v ((lg_cmp_eq _ _).mp c_6))⟩ dX4_meet_48
  exact L_1 _ 0 (hsC v) (by omega) (by omega) pk_0 (Nat.lt_succ_self _) _ _ _ V (lv_sub hl [0, 1, 2, 3] rfl)

def q_e_meetPresent_f (T : Nat → ClassId) (fa : Nat → Int32) (V_ : List (List Nat)) (e0 : Nat) (a0 : Nat) (e1 : Nat) (e2 : Nat) (em : Nat) (e3 : Nat) (e4 : Nat) (e5 : Nat) (e6 : Nat) (ea : Nat → Int64) (eb : Nat → Int32) (an : Nat) (am : Int32) (al : Int32) (ao : Int32) (au : Int32) (a1 : Nat) (a2 : Nat) (a3 : Nat) (a4 : Nat) (a5 : Nat) (a6 : Nat) (a7 : Nat) (a8 : Nat) (a9 : Nat) (a10 : Nat) (af3 : Nat → Int32) (af6 : Nat → Int32) (af7 : Nat → Int32) : Option Value → va_W → Prop := fun rr ww => (∃ (em2 : Nat) (g1 : Nat → Int64) (g2 : Nat → Int32), rr = none ∧ ww = [(e0, .inr (4, [.ref e1, .ref e2, .int (nI em2), .ref e3, .ref e4, .ref e5, .ref e6])), (e1, .inl (T 1, 3001, .inr (.inl g1))), (e2, .inl (T 0, 8192, .inl g2)), (a0, .inr (5, [.int (nI an), .int am, .int al, .int ao, .int au, .ref a1, .ref a2, .ref a3, .ref a4, .ref a5, .ref a6, .ref a7, .ref a8, .ref a9, .ref a10])), (a3, .inl (T 0, 10, .inl af3)), (a6, .inl (T 0, 10, .inl af6)), (a7, .inl (T 0, 10, .inl af7))] ∧ HT (VS an) cC hsC (inz V_ (prS an fa)) em2 g1 g2)
set_option maxHeartbeats 4000000 in
set_option maxRecDepth 100000 in
theorem e_meetPresent_f (l : Launch) (D : va_G) (T : Nat → ClassId) (fa : Nat → Int32) (V_ : List (List Nat)) (e0 : Nat) (a0 : Nat) (e1 : Nat) (e2 : Nat) (em : Nat) (e3 : Nat) (e4 : Nat) (e5 : Nat) (e6 : Nat) (ea : Nat → Int64) (eb : Nat → Int32) (an : Nat) (am : Int32) (al : Int32) (ao : Int32) (au : Int32) (a1 : Nat) (a2 : Nat) (a3 : Nat) (a4 : Nat) (a5 : Nat) (a6 : Nat) (a7 : Nat) (a8 : Nat) (a9 : Nat) (a10 : Nat) (af3 : Nat → Int32) (af6 : Nat → Int32) (af7 : Nat → Int32) (h_n : an ≤ 3) (h_a : MI an fa) (h_ht : HT (VS an) cC hsC V_ em ea eb) (h_s3 : ∀ i, i < an → af3 i = fa (24 + i)) (h_s6 : ∀ i, i < an → af6 i = fa (54 + i)) (h_s7 : ∀ i, i < an → af7 i = fa (64 + i)) : Ct l yX4_meetPresent cX4_meetPresent 5 none 1 0 0 D T [.ref e0, .ref a0] [(e0, .inr (4, [.ref e1, .ref e2, .int (nI em), .ref e3, .ref e4, .ref e5, .ref e6])), (e1, .inl (T 1, 3001, .inr (.inl ea))), (e2, .inl (T 0, 8192, .inl eb)), (a0, .inr (5, [.int (nI an), .int am, .int al, .int ao, .int au, .ref a1, .ref a2, .ref a3, .ref a4, .ref a5, .ref a6, .ref a7, .ref a8, .ref a9, .ref a10])), (a3, .inl (T 0, 10, .inl af3)), (a6, .inl (T 0, 10, .inl af6)), (a7, .inl (T 0, 10, .inl af7))] (q_e_meetPresent_f T fa V_ e0 a0 e1 e2 em e3 e4 e5 e6 ea eb an am al ao au a1 a2 a3 a4 a5 a6 a7 a8 a9 a10 af3 af6 af7) := by
  refine Ct.of (cc := cX4_meetPresent) (maxL := 5) (ret := none) (by decide) (Nat.le_of_ble_eq_true rfl) ?_
  intro p e s m args below meth c A ls hC hnm V hl
  obtain ⟨hx, hb, hr, hml, hown, hts, hlocks⟩ := id hC
  generalize hH : s.heap = H at V ⊢
  clear hH
  have hl : lv_has ls 5 [(0, .ref e0), (1, .ref a0)] := hl
  generalize hlo : ([] : List Loc) = locs at V ⊢
  clear hlo
  have hb3 : ∀ i, i < an → bd (af3 i) 256 := fun i hi => by rw [h_s3 i hi]; exact mi_heat h_a hi
  have hb6 : ∀ i, i < an → bd (af6 i) 21 := fun i hi => by rw [h_s6 i hi]; exact mi_need h_a hi
  have hb7 : ∀ i, i < an → bd (af7 i) 32 := fun i hi => by rw [h_s7 i hi]; exact mi_has h_a hi
  refine lv_lconst (v := (nI 0).toInt64) hx hb dX4_meetPresent_0 (by decide +kernel) ?_
  refine lv_lstore_n (lv' := [(2, .long (nI 0).toInt64), (0, .ref e0), (1, .ref a0)]) hx hb dX4_meetPresent_1 rfl hl (by decide) rfl (fun ls hl => ?_)
  refine lv_iconst (v := (nI 0)) hx hb dX4_meetPresent_2 (by decide +kernel) ?_
  refine lv_istore (lv' := [(4, .int (nI 0)), (2, .long (nI 0).toInt64), (0, .ref e0), (1, .ref a0)]) hx hb dX4_meetPresent_3 hl (by decide) rfl (fun ls hl => ?_)
  have L_1 : ∀ (fu : Nat) (k5 : Nat) (x2 : Int64), k5 ≤ an → x2 = cC (rdF k5 (p0F an fa)) → an - k5 < fu → ∀ (H : Heap) (locs : List Loc) (ls : Array Slot), gW D T A s [(e0, .inr (4, [.ref e1, .ref e2, .int (nI em), .ref e3, .ref e4, .ref e5, .ref e6])), (e1, .inl (T 1, 3001, .inr (.inl ea))), (e2, .inl (T 0, 8192, .inl eb)), (a0, .inr (5, [.int (nI an), .int am, .int al, .int ao, .int au, .ref a1, .ref a2, .ref a3, .ref a4, .ref a5, .ref a6, .ref a7, .ref a8, .ref a9, .ref a10])), (a3, .inl (T 0, 10, .inl af3)), (a6, .inl (T 0, 10, .inl af6)), (a7, .inl (T 0, 10, .inl af7))] H locs → lv_has ls 5 [(4, .int (nI k5)), (2, .long x2), (0, .ref e0), (1, .ref a0)] → W p l e (rmD 1 0 0) s m args below meth c H locs 0 0 (MQ below (gQ D A (q_e_meetPresent_f T fa V_ e0 a0 e1 e2 em e3 e4 e5 e6 ea eb an am al ao au a1 a2 a3 a4 a5 a6 a7 a8 a9 a10 af3 af6 af7)) args s 0 0 A) (F0 m 5 ls []) := by
    intro fu_5
    induction fu_5 with
    | zero => intro k5 x2 hk5 hx2 hmu; exact absurd hmu (Nat.not_lt_zero _)
    | succ fu_5 ih_5 =>
      intro k5 x2 hk5 hx2 hmu_5 H locs ls V hl
      refine lv_iload hx hb dX4_meetPresent_5 (lv_at hl 0 rfl) ?_
      refine lv_aload_n hx hb dX4_meetPresent_7 rfl (lv_at hl 3 rfl) ?_
      refine g_get hC V (ci := 5) uwX5 3 rfl rfl 0 (by decide) w_34 rfl rfl dX4_meetPresent_8 ?_
      refine lv_icmp_ge (tgt := 52) hx hb dX4_meetPresent_11 (by decide) (fun c_2 => ?_) (fun c_2 => ?_)
      · skip
        have c_2 := b_le (by omega) (by omega) c_2
        refine lv_aload_n hx hb dX4_meetPresent_52 rfl (lv_at hl 2 rfl) ?_
        refine lv_lload_n hx hb dX4_meetPresent_53 rfl (lv_at hl 1 rfl) ?_
        refine g_callVU (nA := 1) hC V hl.1 (e_meet_f l D T an V_ (prS an fa) e0 x2 e1 e2 em e3 e4 e5 e6 ea eb h_ht (pr_vs h_a) (hx2.trans (by unfold prS; congr 2; omega)) h_n) w_754 w_756 w_s25 w_18 w_757 (by decide +kernel) rfl ⟨(Nat.le_of_ble_eq_true rfl), (Nat.le_of_ble_eq_true rfl)⟩ 0 (ci := 4) rfl rfl [0, 1, 2] rfl rfl (Nat.le_of_ble_eq_true rfl) dX4_meetPresent_54 ⟨(Nat.le_of_ble_eq_true rfl), (Nat.le_of_ble_eq_true rfl)⟩ rfl (fun r w1 H locs hQ V => ?_)
        obtain ⟨em2_3, g1_4, g2_5, rfl, rfl, f_6⟩ := hQ
        have V : gW D T A s [(e0, .inr (4, [.ref e1, .ref e2, .int (nI em2_3), .ref e3, .ref e4, .ref e5, .ref e6])), (e1, .inl (T 1, 3001, .inr (.inl g1_4))), (e2, .inl (T 0, 8192, .inl g2_5)), (a0, .inr (5, [.int (nI an), .int am, .int al, .int ao, .int au, .ref a1, .ref a2, .ref a3, .ref a4, .ref a5, .ref a6, .ref a7, .ref a8, .ref a9, .ref a10])), (a3, .inl (T 0, 10, .inl af3)), (a6, .inl (T 0, 10, .inl af6)), (a7, .inl (T 0, 10, .inl af7))] H locs := V _ [0, 0, 0] rfl rfl rfl (by decide +kernel) rfl
        show W p l e _ s m args below meth c H locs _ _ _ (F0 m 57 ls [])
        exact g_vret (Qr := (q_e_meetPresent_f T fa V_ e0 a0 e1 e2 em e3 e4 e5 e6 ea eb an am al ao au a1 a2 a3 a4 a5 a6 a7 a8 a9 a10 af3 af6 af7)) hC V ⟨(Nat.le_of_ble_eq_true rfl), (Nat.le_of_ble_eq_true rfl)⟩ ⟨em2_3, g1_4, g2_5, rfl, rfl, f_6⟩ dX4_meetPresent_57
      · skip
        have c_2 := b_nle (by omega) (by omega) c_2
        refine lv_lload_n hx hb dX4_meetPresent_14 rfl (lv_at hl 1 rfl) ?_
        refine lv_iload hx hb dX4_meetPresent_15 (lv_at hl 0 rfl) ?_
        refine lv_aload_n hx hb dX4_meetPresent_17 rfl (lv_at hl 3 rfl) ?_
        refine g_get hC V (ci := 5) uwX5 3 rfl rfl 7 (by decide) w_63 rfl rfl dX4_meetPresent_18 ?_
        refine lv_iload hx hb dX4_meetPresent_21 (lv_at hl 0 rfl) ?_
        obtain ⟨j_7, hj_7, ej_7⟩ := bd_ex (hb3 k5 (by omega))
        refine g_iald hC V 4 rfl (vp_in_nI (by omega) (by omega)) (v := (nI j_7)) (by rw [nI_clamp (by omega)]; exact ej_7) dX4_meetPresent_23 ?_
        refine lv_aload_n hx hb dX4_meetPresent_24 rfl (lv_at hl 3 rfl) ?_
        refine g_get hC V (ci := 5) uwX5 3 rfl rfl 11 (by decide) w_78 rfl rfl dX4_meetPresent_25 ?_
        refine lv_iload hx hb dX4_meetPresent_28 (lv_at hl 0 rfl) ?_
        obtain ⟨j_8, hj_8, ej_8⟩ := bd_ex (hb7 k5 (by omega))
        refine g_iald hC V 6 rfl (vp_in_nI (by omega) (by omega)) (v := (nI j_8)) (by rw [nI_clamp (by omega)]; exact ej_8) dX4_meetPresent_30 ?_
        refine lv_aload_n hx hb dX4_meetPresent_31 rfl (lv_at hl 3 rfl) ?_
        refine g_get hC V (ci := 5) uwX5 3 rfl rfl 10 (by decide) w_75 rfl rfl dX4_meetPresent_32 ?_
        refine lv_iload hx hb dX4_meetPresent_35 (lv_at hl 0 rfl) ?_
        obtain ⟨j_9, hj_9, ej_9⟩ := bd_ex (hb6 k5 (by omega))
        refine g_iald hC V 5 rfl (vp_in_nI (by omega) (by omega)) (v := (nI j_9)) (by rw [nI_clamp (by omega)]; exact ej_9) dX4_meetPresent_37 ?_
        refine va_mmin hx hb (hml.trans hl.1.symm) hown (hts _ w_750) (hts _ w_300) (hts _ w_10) (hts _ w_301) (Nat.le_of_ble_eq_true rfl) (Nat.le_of_ble_eq_true rfl) (Nat.le_of_ble_eq_true rfl) (Nat.le_of_ble_eq_true rfl) dX4_meetPresent_38 ?_
        refine g_vi (y := (nI (min j_8 j_9))) (min_nI (by omega) (by omega)) ?_
        refine g_callSU (nA := 3) hC V hl.1 (e_packed_f l D T k5 j_7 (min j_8 j_9) (by first | assumption | omega) (by first | assumption | omega) (by first | assumption | omega)) w_751 w_752 w_18 w_753 (by decide +kernel) rfl ⟨(Nat.le_of_ble_eq_true rfl), (Nat.le_of_ble_eq_true rfl)⟩ [] rfl rfl (Nat.le_of_ble_eq_true rfl) dX4_meetPresent_41 ⟨(Nat.le_of_ble_eq_true rfl), (Nat.le_of_ble_eq_true rfl)⟩ rfl (fun r w1 H locs hQ V => ?_)
        obtain ⟨rfl, rfl⟩ := hQ
        have V : gW D T A s [(e0, .inr (4, [.ref e1, .ref e2, .int (nI em), .ref e3, .ref e4, .ref e5, .ref e6])), (e1, .inl (T 1, 3001, .inr (.inl ea))), (e2, .inl (T 0, 8192, .inl eb)), (a0, .inr (5, [.int (nI an), .int am, .int al, .int ao, .int au, .ref a1, .ref a2, .ref a3, .ref a4, .ref a5, .ref a6, .ref a7, .ref a8, .ref a9, .ref a10])), (a3, .inl (T 0, 10, .inl af3)), (a6, .inl (T 0, 10, .inl af6)), (a7, .inl (T 0, 10, .inl af7))] H locs := V _ [] rfl rfl rfl (by decide +kernel) rfl
        show W p l e _ s m args below meth c H locs _ _ _ (F0 m 44 ls [.long (Int64.ofNat (8192 ^ k5 * (32 * j_7 + (min j_8 j_9)))), .long x2])
        refine lv_lor hx hb dX4_meetPresent_44 ?_
        refine lv_lstore_n (lv' := [(2, .long (x2 ||| (Int64.ofNat (8192 ^ k5 * (32 * j_7 + (min j_8 j_9)))))), (4, .int (nI k5)), (0, .ref e0), (1, .ref a0)]) hx hb dX4_meetPresent_45 rfl hl (by decide) rfl (fun ls hl => ?_)
        refine lv_iinc (v := (nI (k5 + 1))) (lv' := [(4, .int (nI (k5 + 1))), (2, .long (x2 ||| (Int64.ofNat (8192 ^ k5 * (32 * j_7 + (min j_8 j_9)))))), (0, .ref e0), (1, .ref a0)]) hx hb dX4_meetPresent_46 hl (k := 1) rfl (nI_1 _) (by decide) rfl (fun ls hl => ?_)
        refine lv_goto (tgt := 5) hx hb dX4_meetPresent_49 (by decide) ?_
        exact ih_5 (k5 + 1) (x2 ||| (Int64.ofNat (8192 ^ k5 * (32 * j_7 + (min j_8 j_9))))) (by omega) (rd_or hx2 (p0_vs h_a (by omega)) (p0_xc (by omega) (by omega) ((h_s3 _ (by omega)).symm.trans ej_7) ((h_s7 _ (by omega)).symm.trans ej_8) ((h_s6 _ (by omega)).symm.trans ej_9) (by omega) (by omega) (by omega))) (by omega) _ _ _ V (lv_sub hl [0, 1, 2, 3] rfl)
  exact L_1 _ 0 ((nI 0).toInt64) (by omega) (cz_0 _) (Nat.lt_succ_self _) _ _ _ V (lv_sub hl [0, 1, 2, 3] rfl)

def q_e_unpack_f (T : Nat → ClassId) (st_ : List Nat) (e0 : Nat) (a0 : Nat) (v : Int64) (e1 : Nat) (e2 : Nat) (em : Nat) (e3 : Nat) (e4 : Nat) (e5 : Nat) (e6 : Nat) (ec : Nat → Int32) (ed : Nat → Int32) (an : Nat) (am : Int32) (al : Int32) (ao : Int32) (au : Int32) (a1 : Nat) (a2 : Nat) (a3 : Nat) (a4 : Nat) (a5 : Nat) (a6 : Nat) (a7 : Nat) (a8 : Nat) (a9 : Nat) (a10 : Nat) : Option Value → va_W → Prop := fun rr ww => (∃ (gc : Nat → Int32) (gd : Nat → Int32), rr = none ∧ ww = [(e0, .inr (4, [.ref e1, .ref e2, .int (nI em), .ref e3, .ref e4, .ref e5, .ref e6])), (e3, .inl (T 0, 3, .inl gc)), (e4, .inl (T 0, 3, .inl gd)), (a0, .inr (5, [.int (nI an), .int am, .int al, .int ao, .int au, .ref a1, .ref a2, .ref a3, .ref a4, .ref a5, .ref a6, .ref a7, .ref a8, .ref a9, .ref a10]))] ∧ UN an st_ gc gd)
set_option maxHeartbeats 4000000 in
set_option maxRecDepth 100000 in
theorem e_unpack_f (l : Launch) (D : va_G) (T : Nat → ClassId) (st_ : List Nat) (e0 : Nat) (a0 : Nat) (v : Int64) (e1 : Nat) (e2 : Nat) (em : Nat) (e3 : Nat) (e4 : Nat) (e5 : Nat) (e6 : Nat) (ec : Nat → Int32) (ed : Nat → Int32) (an : Nat) (am : Int32) (al : Int32) (ao : Int32) (au : Int32) (a1 : Nat) (a2 : Nat) (a3 : Nat) (a4 : Nat) (a5 : Nat) (a6 : Nat) (a7 : Nat) (a8 : Nat) (a9 : Nat) (a10 : Nat) (h_n : an ≤ 3) (h_vs : VS an st_) (h_v : v = cC st_) : Ct l yX4_unpack cX4_unpack 6 none 0 0 0 D T [.ref e0, .ref a0, .long v] [(e0, .inr (4, [.ref e1, .ref e2, .int (nI em), .ref e3, .ref e4, .ref e5, .ref e6])), (e3, .inl (T 0, 3, .inl ec)), (e4, .inl (T 0, 3, .inl ed)), (a0, .inr (5, [.int (nI an), .int am, .int al, .int ao, .int au, .ref a1, .ref a2, .ref a3, .ref a4, .ref a5, .ref a6, .ref a7, .ref a8, .ref a9, .ref a10]))] (q_e_unpack_f T st_ e0 a0 v e1 e2 em e3 e4 e5 e6 ec ed an am al ao au a1 a2 a3 a4 a5 a6 a7 a8 a9 a10) := by
  refine Ct.of (cc := cX4_unpack) (maxL := 6) (ret := none) (by decide) (Nat.le_of_ble_eq_true rfl) ?_
  intro p e s m args below meth c A ls hC hnm V hl
  obtain ⟨hx, hb, hr, hml, hown, hts, hlocks⟩ := id hC
  generalize hH : s.heap = H at V ⊢
  clear hH
  have hl : lv_has ls 6 [(0, .ref e0), (1, .ref a0), (2, .long v)] := hl
  generalize hlo : ([] : List Loc) = locs at V ⊢
  clear hlo
  refine lv_iconst (v := (nI 0)) hx hb dX4_unpack_0 (by decide +kernel) ?_
  refine lv_istore (lv' := [(4, .int (nI 0)), (0, .ref e0), (1, .ref a0), (2, .long v)]) hx hb dX4_unpack_1 hl (by decide) rfl (fun ls hl => ?_)
  have L_1 : ∀ (fu : Nat) (k3 : Nat) (ga : Nat → Int32) (gb : Nat → Int32), k3 ≤ an → UN k3 st_ ga gb → an - k3 < fu → ∀ (H : Heap) (locs : List Loc) (ls : Array Slot), gW D T A s [(e0, .inr (4, [.ref e1, .ref e2, .int (nI em), .ref e3, .ref e4, .ref e5, .ref e6])), (e3, .inl (T 0, 3, .inl ga)), (e4, .inl (T 0, 3, .inl gb)), (a0, .inr (5, [.int (nI an), .int am, .int al, .int ao, .int au, .ref a1, .ref a2, .ref a3, .ref a4, .ref a5, .ref a6, .ref a7, .ref a8, .ref a9, .ref a10]))] H locs → lv_has ls 6 [(4, .int (nI k3)), (0, .ref e0), (1, .ref a0), (2, .long v)] → W p l e (rmD 0 0 0) s m args below meth c H locs 0 0 (MQ below (gQ D A (q_e_unpack_f T st_ e0 a0 v e1 e2 em e3 e4 e5 e6 ec ed an am al ao au a1 a2 a3 a4 a5 a6 a7 a8 a9 a10)) args s 0 0 A) (F0 m 3 ls []) := by
    intro fu_3
    induction fu_3 with
    | zero => intro k3 ga gb hk3 hun hmu; exact absurd hmu (Nat.not_lt_zero _)
    | succ fu_3 ih_3 =>
      intro k3 ga gb hk3 hun hmu_3 H locs ls V hl
      refine lv_iload hx hb dX4_unpack_3 (lv_at hl 0 rfl) ?_
      refine lv_aload_n hx hb dX4_unpack_5 rfl (lv_at hl 2 rfl) ?_
      refine g_get hC V (ci := 5) uwX5 3 rfl rfl 0 (by decide) w_34 rfl rfl dX4_unpack_6 ?_
      refine lv_icmp_ge (tgt := 61) hx hb dX4_unpack_9 (by decide) (fun c_2 => ?_) (fun c_2 => ?_)
      · skip
        have c_2 := b_le (by omega) (by omega) c_2
        exact g_vret (Qr := (q_e_unpack_f T st_ e0 a0 v e1 e2 em e3 e4 e5 e6 ec ed an am al ao au a1 a2 a3 a4 a5 a6 a7 a8 a9 a10)) hC V ⟨(Nat.le_of_ble_eq_true rfl), (Nat.le_of_ble_eq_true rfl)⟩ ⟨ga, gb, rfl, rfl, (fun i hi => hun i (by omega))⟩ dX4_unpack_61
      · skip
        have c_2 := b_nle (by omega) (by omega) c_2
        refine lv_iload hx hb dX4_unpack_12 (lv_at hl 0 rfl) ?_
        refine lv_iconst (v := (nI 3)) hx hb dX4_unpack_14 (by decide +kernel) ?_
        refine lv_icmp_ge (tgt := 61) hx hb dX4_unpack_15 (by decide) (fun c_3 => ?_) (fun c_3 => ?_)
        · skip
          have c_3 := b_le (by omega) (by omega) c_3
          exact g_vret (Qr := (q_e_unpack_f T st_ e0 a0 v e1 e2 em e3 e4 e5 e6 ec ed an am al ao au a1 a2 a3 a4 a5 a6 a7 a8 a9 a10)) hC V ⟨(Nat.le_of_ble_eq_true rfl), (Nat.le_of_ble_eq_true rfl)⟩ ⟨ga, gb, rfl, rfl, (fun i hi => hun i (by omega))⟩ dX4_unpack_61
        · skip
          have c_3 := b_nle (by omega) (by omega) c_3
          refine lv_lload_n hx hb dX4_unpack_18 rfl (lv_at hl 3 rfl) ?_
          refine lv_iload hx hb dX4_unpack_19 (lv_at hl 0 rfl) ?_
          refine lv_bipush (v := (nI 13)) hx hb dX4_unpack_21 (by decide +kernel) ?_
          refine lv_imul hx hb dX4_unpack_23 ?_
          refine g_vi (y := (nI (k3 * 13))) (pk_mul _ _) ?_
          refine lv_lshr hx hb dX4_unpack_24 rfl ?_
          refine lv_l2i hx hb dX4_unpack_25 rfl ?_
          refine lv_istore (lv' := [(5, .int ((v >>> (((nI (k3 * 13))).toInt64 &&& 63)).toInt32)), (4, .int (nI k3)), (0, .ref e0), (1, .ref a0), (2, .long v)]) hx hb dX4_unpack_26 hl (by decide) rfl (fun ls hl => ?_)
          refine lv_aload_n hx hb dX4_unpack_28 rfl (lv_at hl 2 rfl) ?_
          refine g_get hC V (ci := 4) uwX4 0 rfl rfl 4 (by decide) w_717 rfl rfl dX4_unpack_29 ?_
          refine lv_iload hx hb dX4_unpack_32 (lv_at hl 1 rfl) ?_
          refine lv_iload hx hb dX4_unpack_34 (lv_at hl 0 rfl) ?_
          refine lv_bipush (v := (nI 31)) hx hb dX4_unpack_36 (by decide +kernel) ?_
          refine lv_iand hx hb dX4_unpack_38 ?_
          refine g_iast hC V 2 rfl (vp_in_nI (by omega) (by omega)) (f' := (upd gb k3 (((v >>> (((nI (k3 * 13))).toInt64 &&& 63)).toInt32) &&& (nI 31)))) (by rw [nI_clamp (by omega)]) (ws' := [(e0, .inr (4, [.ref e1, .ref e2, .int (nI em), .ref e3, .ref e4, .ref e5, .ref e6])), (e3, .inl (T 0, 3, .inl ga)), (e4, .inl (T 0, 3, .inl (upd gb k3 (((v >>> (((nI (k3 * 13))).toInt64 &&& 63)).toInt32) &&& (nI 31))))), (a0, .inr (5, [.int (nI an), .int am, .int al, .int ao, .int au, .ref a1, .ref a2, .ref a3, .ref a4, .ref a5, .ref a6, .ref a7, .ref a8, .ref a9, .ref a10]))]) rfl dX4_unpack_39 (fun H locs V => ?_)
          refine lv_aload_n hx hb dX4_unpack_40 rfl (lv_at hl 2 rfl) ?_
          refine g_get hC V (ci := 4) uwX4 0 rfl rfl 3 (by decide) w_716 rfl rfl dX4_unpack_41 ?_
          refine lv_iload hx hb dX4_unpack_44 (lv_at hl 1 rfl) ?_
          refine lv_iload hx hb dX4_unpack_46 (lv_at hl 0 rfl) ?_
          refine lv_iconst (v := (nI 5)) hx hb dX4_unpack_48 (by decide +kernel) ?_
          refine lv_ishr hx hb dX4_unpack_49 ?_
          refine lv_sipush (v := (nI 255)) hx hb dX4_unpack_50 (by decide +kernel) ?_
          refine lv_iand hx hb dX4_unpack_53 ?_
          refine g_iast hC V 1 rfl (vp_in_nI (by omega) (by omega)) (f' := (upd ga k3 ((((v >>> (((nI (k3 * 13))).toInt64 &&& 63)).toInt32) >>> ((nI 5) &&& 31)) &&& (nI 255)))) (by rw [nI_clamp (by omega)]) (ws' := [(e0, .inr (4, [.ref e1, .ref e2, .int (nI em), .ref e3, .ref e4, .ref e5, .ref e6])), (e3, .inl (T 0, 3, .inl (upd ga k3 ((((v >>> (((nI (k3 * 13))).toInt64 &&& 63)).toInt32) >>> ((nI 5) &&& 31)) &&& (nI 255))))), (e4, .inl (T 0, 3, .inl (upd gb k3 (((v >>> (((nI (k3 * 13))).toInt64 &&& 63)).toInt32) &&& (nI 31))))), (a0, .inr (5, [.int (nI an), .int am, .int al, .int ao, .int au, .ref a1, .ref a2, .ref a3, .ref a4, .ref a5, .ref a6, .ref a7, .ref a8, .ref a9, .ref a10]))]) rfl dX4_unpack_54 (fun H locs V => ?_)
          refine lv_iinc (v := (nI (k3 + 1))) (lv' := [(4, .int (nI (k3 + 1))), (5, .int ((v >>> (((nI (k3 * 13))).toInt64 &&& 63)).toInt32)), (0, .ref e0), (1, .ref a0), (2, .long v)]) hx hb dX4_unpack_55 hl (k := 1) rfl (nI_1 _) (by decide) rfl (fun ls hl => ?_)
          refine lv_goto (tgt := 3) hx hb dX4_unpack_58 (by decide) ?_
          exact ih_3 (k3 + 1) (upd ga k3 ((((v >>> (((nI (k3 * 13))).toInt64 &&& 63)).toInt32) >>> ((nI 5) &&& 31)) &&& (nI 255))) (upd gb k3 (((v >>> (((nI (k3 * 13))).toInt64 &&& 63)).toInt32) &&& (nI 31))) (by omega) (un_s hun h_vs h_n (by omega) h_v rfl rfl) (by omega) _ _ _ V (lv_sub hl [0, 2, 3, 4] rfl)
  exact L_1 _ 0 ec ed (by omega) (fun i h => absurd h (Nat.not_lt_zero _)) (Nat.lt_succ_self _) _ _ _ V (lv_sub hl [0, 1, 2, 3] rfl)

def q_e_canStrike_f (T : Nat → ClassId) (fa : Nat → Int32) (st_ : List Nat) (e0 : Nat) (a0 : Nat) (j : Nat) (e1 : Nat) (e2 : Nat) (em : Nat) (e3 : Nat) (e4 : Nat) (e5 : Nat) (e6 : Nat) (ec : Nat → Int32) (ed : Nat → Int32) (an : Nat) (am : Int32) (al : Int32) (ao : Int32) (au : Int32) (a1 : Nat) (a2 : Nat) (a3 : Nat) (a4 : Nat) (a5 : Nat) (a6 : Nat) (a7 : Nat) (a8 : Nat) (a9 : Nat) (a10 : Nat) (af4 : Nat → Int32) (af5 : Nat → Int32) (af6 : Nat → Int32) : Option Value → va_W → Prop := fun rr ww => (rr = some (.int (nI 1)) ∧ ww = [(e0, .inr (4, [.ref e1, .ref e2, .int (nI em), .ref e3, .ref e4, .ref e5, .ref e6])), (e3, .inl (T 0, 3, .inl ec)), (e4, .inl (T 0, 3, .inl ed)), (a0, .inr (5, [.int (nI an), .int am, .int al, .int ao, .int au, .ref a1, .ref a2, .ref a3, .ref a4, .ref a5, .ref a6, .ref a7, .ref a8, .ref a9, .ref a10])), (a4, .inl (T 0, 10, .inl af4)), (a5, .inl (T 0, 10, .inl af5)), (a6, .inl (T 0, 10, .inl af6))] ∧ abP (stF an fa st_) j) ∨ (rr = some (.int (nI 0)) ∧ ww = [(e0, .inr (4, [.ref e1, .ref e2, .int (nI em), .ref e3, .ref e4, .ref e5, .ref e6])), (e3, .inl (T 0, 3, .inl ec)), (e4, .inl (T 0, 3, .inl ed)), (a0, .inr (5, [.int (nI an), .int am, .int al, .int ao, .int au, .ref a1, .ref a2, .ref a3, .ref a4, .ref a5, .ref a6, .ref a7, .ref a8, .ref a9, .ref a10])), (a4, .inl (T 0, 10, .inl af4)), (a5, .inl (T 0, 10, .inl af5)), (a6, .inl (T 0, 10, .inl af6))] ∧ ¬ abP (stF an fa st_) j)
set_option maxHeartbeats 4000000 in
set_option maxRecDepth 100000 in
theorem e_canStrike_f (l : Launch) (D : va_G) (T : Nat → ClassId) (fa : Nat → Int32) (st_ : List Nat) (e0 : Nat) (a0 : Nat) (j : Nat) (e1 : Nat) (e2 : Nat) (em : Nat) (e3 : Nat) (e4 : Nat) (e5 : Nat) (e6 : Nat) (ec : Nat → Int32) (ed : Nat → Int32) (an : Nat) (am : Int32) (al : Int32) (ao : Int32) (au : Int32) (a1 : Nat) (a2 : Nat) (a3 : Nat) (a4 : Nat) (a5 : Nat) (a6 : Nat) (a7 : Nat) (a8 : Nat) (a9 : Nat) (a10 : Nat) (af4 : Nat → Int32) (af5 : Nat → Int32) (af6 : Nat → Int32) (h_j : j < an) (h_n : an ≤ 3) (h_un : UN an st_ ec ed) (h_s4 : ∀ i, i < an → af4 i = fa (34 + i)) (h_s5 : ∀ i, i < an → af5 i = fa (44 + i)) (h_s6 : ∀ i, i < an → af6 i = fa (54 + i)) : Ct l yX4_canStrike cX4_canStrike 3 (some .boolean) 1 0 0 D T [.ref e0, .ref a0, .int (nI j)] [(e0, .inr (4, [.ref e1, .ref e2, .int (nI em), .ref e3, .ref e4, .ref e5, .ref e6])), (e3, .inl (T 0, 3, .inl ec)), (e4, .inl (T 0, 3, .inl ed)), (a0, .inr (5, [.int (nI an), .int am, .int al, .int ao, .int au, .ref a1, .ref a2, .ref a3, .ref a4, .ref a5, .ref a6, .ref a7, .ref a8, .ref a9, .ref a10])), (a4, .inl (T 0, 10, .inl af4)), (a5, .inl (T 0, 10, .inl af5)), (a6, .inl (T 0, 10, .inl af6))] (q_e_canStrike_f T fa st_ e0 a0 j e1 e2 em e3 e4 e5 e6 ec ed an am al ao au a1 a2 a3 a4 a5 a6 a7 a8 a9 a10 af4 af5 af6) := by
  refine Ct.of (cc := cX4_canStrike) (maxL := 3) (ret := (some .boolean)) (by decide) (Nat.le_of_ble_eq_true rfl) ?_
  intro p e s m args below meth c A ls hC hnm V hl
  obtain ⟨hx, hb, hr, hml, hown, hts, hlocks⟩ := id hC
  generalize hH : s.heap = H at V ⊢
  clear hH
  have hl : lv_has ls 3 [(0, .ref e0), (1, .ref a0), (2, .int (nI j))] := hl
  generalize hlo : ([] : List Loc) = locs at V ⊢
  clear hlo
  refine lv_aload_n hx hb dX4_canStrike_0 rfl (lv_at hl 0 rfl) ?_
  refine g_get hC V (ci := 4) uwX4 0 rfl rfl 4 (by decide) w_717 rfl rfl dX4_canStrike_1 ?_
  refine lv_iload_n hx hb dX4_canStrike_4 rfl (lv_at hl 2 rfl) ?_
  refine g_iald hC V 2 rfl (vp_in_nI (by omega) (by omega)) (v := (ed j)) (congrArg _ (nI_clamp (by omega))) dX4_canStrike_5 ?_
  refine lv_aload_n hx hb dX4_canStrike_6 rfl (lv_at hl 1 rfl) ?_
  refine g_get hC V (ci := 5) uwX5 3 rfl rfl 10 (by decide) w_75 rfl rfl dX4_canStrike_7 ?_
  refine lv_iload_n hx hb dX4_canStrike_10 rfl (lv_at hl 2 rfl) ?_
  refine g_iald hC V 6 rfl (vp_in_nI (by omega) (by omega)) (v := (af6 j)) (congrArg _ (nI_clamp (by omega))) dX4_canStrike_11 ?_
  refine lv_icmp_ge (tgt := 33) hx hb dX4_canStrike_12 (by decide) (fun c_1 => ?_) (fun c_1 => ?_)
  · skip
    refine lv_iconst (v := (nI 0)) hx hb dX4_canStrike_33 (by decide +kernel) ?_
    exact g_zret (Qr := (q_e_canStrike_f T fa st_ e0 a0 j e1 e2 em e3 e4 e5 e6 ec ed an am al ao au a1 a2 a3 a4 a5 a6 a7 a8 a9 a10 af4 af5 af6)) hC V ⟨(Nat.le_of_ble_eq_true rfl), (Nat.le_of_ble_eq_true rfl)⟩ (by first | decide +kernel | exact rfl) (.inr ⟨rfl, rfl, (ab_n1 (by omega) h_j h_un (h_s6 _ h_j) c_1)⟩) dX4_canStrike_34
  · skip
    refine lv_aload_n hx hb dX4_canStrike_15 rfl (lv_at hl 1 rfl) ?_
    refine lv_iload_n hx hb dX4_canStrike_16 rfl (lv_at hl 2 rfl) ?_
    refine lv_aload_n hx hb dX4_canStrike_17 rfl (lv_at hl 0 rfl) ?_
    refine g_get hC V (ci := 4) uwX4 0 rfl rfl 3 (by decide) w_716 rfl rfl dX4_canStrike_18 ?_
    refine lv_iload_n hx hb dX4_canStrike_21 rfl (lv_at hl 2 rfl) ?_
    refine g_iald hC V 1 rfl (vp_in_nI (by omega) (by omega)) (v := (ec j)) (congrArg _ (nI_clamp (by omega))) dX4_canStrike_22 ?_
    refine g_callVU (nA := 2) hC V hl.1 (s_isWorkableAt l D T a0 j (ec j) an am al ao au a1 a2 a3 a4 a5 a6 a7 a8 a9 a10 af4 af5 (by first | assumption | omega)) w_771 w_479 w_480 w_3 w_481 (by decide +kernel) rfl ⟨(Nat.le_of_ble_eq_true rfl), (Nat.le_of_ble_eq_true rfl)⟩ 3 (ci := 5) rfl rfl [3, 4, 5] rfl rfl (Nat.le_of_ble_eq_true rfl) dX4_canStrike_23 ⟨(Nat.le_of_ble_eq_true rfl), (Nat.le_of_ble_eq_true rfl)⟩ rfl (fun r w1 H locs hQ V => ?_)
    rcases hQ with ⟨rfl, rfl, f_2, f_3⟩ | ⟨rfl, rfl, f_4⟩
    · have V : gW D T A s [(e0, .inr (4, [.ref e1, .ref e2, .int (nI em), .ref e3, .ref e4, .ref e5, .ref e6])), (e3, .inl (T 0, 3, .inl ec)), (e4, .inl (T 0, 3, .inl ed)), (a0, .inr (5, [.int (nI an), .int am, .int al, .int ao, .int au, .ref a1, .ref a2, .ref a3, .ref a4, .ref a5, .ref a6, .ref a7, .ref a8, .ref a9, .ref a10])), (a4, .inl (T 0, 10, .inl af4)), (a5, .inl (T 0, 10, .inl af5)), (a6, .inl (T 0, 10, .inl af6))] H locs := V _ [3, 0, 0] rfl rfl rfl (by decide +kernel) rfl
      show W p l e _ s m args below meth c H locs _ _ _ (F0 m 26 ls [.int (nI 1)])
      refine lv_if_eq (tgt := 33) hx hb dX4_canStrike_26 (by decide) (fun c => absurd (show (nI 1) = 0 from c) (by decide +kernel)) (fun _ => ?_)
      refine lv_iconst (v := (nI 1)) hx hb dX4_canStrike_29 (by decide +kernel) ?_
      refine lv_goto (tgt := 34) hx hb dX4_canStrike_30 (by decide) ?_
      exact g_zret (Qr := (q_e_canStrike_f T fa st_ e0 a0 j e1 e2 em e3 e4 e5 e6 ec ed an am al ao au a1 a2 a3 a4 a5 a6 a7 a8 a9 a10 af4 af5 af6)) hC V ⟨(Nat.le_of_ble_eq_true rfl), (Nat.le_of_ble_eq_true rfl)⟩ (by first | decide +kernel | exact rfl) (.inl ⟨rfl, rfl, (ab_y (by omega) h_j h_un (h_s4 _ h_j) (h_s5 _ h_j) (h_s6 _ h_j) c_1 f_2 f_3)⟩) dX4_canStrike_34
    · have V : gW D T A s [(e0, .inr (4, [.ref e1, .ref e2, .int (nI em), .ref e3, .ref e4, .ref e5, .ref e6])), (e3, .inl (T 0, 3, .inl ec)), (e4, .inl (T 0, 3, .inl ed)), (a0, .inr (5, [.int (nI an), .int am, .int al, .int ao, .int au, .ref a1, .ref a2, .ref a3, .ref a4, .ref a5, .ref a6, .ref a7, .ref a8, .ref a9, .ref a10])), (a4, .inl (T 0, 10, .inl af4)), (a5, .inl (T 0, 10, .inl af5)), (a6, .inl (T 0, 10, .inl af6))] H locs := V _ [3, 0, 0] rfl rfl rfl (by decide +kernel) rfl
      show W p l e _ s m args below meth c H locs _ _ _ (F0 m 26 ls [.int (nI 0)])
      refine lv_if_eq (tgt := 33) hx hb dX4_canStrike_26 (by decide) (fun _ => ?_) (fun c => absurd (show (nI 0) = 0 by decide +kernel) c)
      refine lv_iconst (v := (nI 0)) hx hb dX4_canStrike_33 (by decide +kernel) ?_
      exact g_zret (Qr := (q_e_canStrike_f T fa st_ e0 a0 j e1 e2 em e3 e4 e5 e6 ec ed an am al ao au a1 a2 a3 a4 a5 a6 a7 a8 a9 a10 af4 af5 af6)) hC V ⟨(Nat.le_of_ble_eq_true rfl), (Nat.le_of_ble_eq_true rfl)⟩ (by first | decide +kernel | exact rfl) (.inr ⟨rfl, rfl, (ab_n2 (by omega) h_j h_un (h_s4 _ h_j) (h_s5 _ h_j) f_4)⟩) dX4_canStrike_34

def q_e_endsNext_f (T : Nat → ClassId) (fa : Nat → Int32) (st_ : List Nat) (e0 : Nat) (a0 : Nat) (v : Int64) (e1 : Nat) (e2 : Nat) (em : Nat) (e3 : Nat) (e4 : Nat) (e5 : Nat) (e6 : Nat) (ec : Nat → Int32) (ed : Nat → Int32) (an : Nat) (am : Int32) (al : Int32) (ao : Int32) (au : Int32) (a1 : Nat) (a2 : Nat) (a3 : Nat) (a4 : Nat) (a5 : Nat) (a6 : Nat) (a7 : Nat) (a8 : Nat) (a9 : Nat) (a10 : Nat) (af4 : Nat → Int32) (af5 : Nat → Int32) (af6 : Nat → Int32) : Option Value → va_W → Prop := fun rr ww => (∃ (gc : Nat → Int32) (gd : Nat → Int32), rr = some (.int (nI 1)) ∧ ww = [(e0, .inr (4, [.ref e1, .ref e2, .int (nI em), .ref e3, .ref e4, .ref e5, .ref e6])), (e3, .inl (T 0, 3, .inl gc)), (e4, .inl (T 0, 3, .inl gd)), (a0, .inr (5, [.int (nI an), .int am, .int al, .int ao, .int au, .ref a1, .ref a2, .ref a3, .ref a4, .ref a5, .ref a6, .ref a7, .ref a8, .ref a9, .ref a10])), (a4, .inl (T 0, 10, .inl af4)), (a5, .inl (T 0, 10, .inl af5)), (a6, .inl (T 0, 10, .inl af6))] ∧ enB an fa st_ = true) ∨ (∃ (gc : Nat → Int32) (gd : Nat → Int32), rr = some (.int (nI 0)) ∧ ww = [(e0, .inr (4, [.ref e1, .ref e2, .int (nI em), .ref e3, .ref e4, .ref e5, .ref e6])), (e3, .inl (T 0, 3, .inl gc)), (e4, .inl (T 0, 3, .inl gd)), (a0, .inr (5, [.int (nI an), .int am, .int al, .int ao, .int au, .ref a1, .ref a2, .ref a3, .ref a4, .ref a5, .ref a6, .ref a7, .ref a8, .ref a9, .ref a10])), (a4, .inl (T 0, 10, .inl af4)), (a5, .inl (T 0, 10, .inl af5)), (a6, .inl (T 0, 10, .inl af6))] ∧ ¬ enB an fa st_ = true)
set_option maxHeartbeats 4000000 in
set_option maxRecDepth 100000 in
theorem e_endsNext_f (l : Launch) (D : va_G) (T : Nat → ClassId) (fa : Nat → Int32) (st_ : List Nat) (e0 : Nat) (a0 : Nat) (v : Int64) (e1 : Nat) (e2 : Nat) (em : Nat) (e3 : Nat) (e4 : Nat) (e5 : Nat) (e6 : Nat) (ec : Nat → Int32) (ed : Nat → Int32) (an : Nat) (am : Int32) (al : Int32) (ao : Int32) (au : Int32) (a1 : Nat) (a2 : Nat) (a3 : Nat) (a4 : Nat) (a5 : Nat) (a6 : Nat) (a7 : Nat) (a8 : Nat) (a9 : Nat) (a10 : Nat) (af4 : Nat → Int32) (af5 : Nat → Int32) (af6 : Nat → Int32) (h_n : an ≤ 3) (h_vs : VS an st_) (h_v : v = cC st_) (h_s4 : ∀ i, i < an → af4 i = fa (34 + i)) (h_s5 : ∀ i, i < an → af5 i = fa (44 + i)) (h_s6 : ∀ i, i < an → af6 i = fa (54 + i)) : Ct l yX4_endsNext cX4_endsNext 6 (some .boolean) 2 0 0 D T [.ref e0, .ref a0, .long v] [(e0, .inr (4, [.ref e1, .ref e2, .int (nI em), .ref e3, .ref e4, .ref e5, .ref e6])), (e3, .inl (T 0, 3, .inl ec)), (e4, .inl (T 0, 3, .inl ed)), (a0, .inr (5, [.int (nI an), .int am, .int al, .int ao, .int au, .ref a1, .ref a2, .ref a3, .ref a4, .ref a5, .ref a6, .ref a7, .ref a8, .ref a9, .ref a10])), (a4, .inl (T 0, 10, .inl af4)), (a5, .inl (T 0, 10, .inl af5)), (a6, .inl (T 0, 10, .inl af6))] (q_e_endsNext_f T fa st_ e0 a0 v e1 e2 em e3 e4 e5 e6 ec ed an am al ao au a1 a2 a3 a4 a5 a6 a7 a8 a9 a10 af4 af5 af6) := by
  refine Ct.of (cc := cX4_endsNext) (maxL := 6) (ret := (some .boolean)) (by decide) (Nat.le_of_ble_eq_true rfl) ?_
  intro p e s m args below meth c A ls hC hnm V hl
  obtain ⟨hx, hb, hr, hml, hown, hts, hlocks⟩ := id hC
  generalize hH : s.heap = H at V ⊢
  clear hH
  have hl : lv_has ls 6 [(0, .ref e0), (1, .ref a0), (2, .long v)] := hl
  generalize hlo : ([] : List Loc) = locs at V ⊢
  clear hlo
  refine lv_aload_n hx hb dX4_endsNext_0 rfl (lv_at hl 0 rfl) ?_
  refine lv_aload_n hx hb dX4_endsNext_1 rfl (lv_at hl 1 rfl) ?_
  refine lv_lload_n hx hb dX4_endsNext_2 rfl (lv_at hl 2 rfl) ?_
  refine g_callVU (nA := 2) hC V hl.1 (e_unpack_f l D T st_ e0 a0 v e1 e2 em e3 e4 e5 e6 ec ed an am al ao au a1 a2 a3 a4 a5 a6 a7 a8 a9 a10 (by first | assumption | omega) h_vs h_v) w_763 w_765 w_s27 w_18 w_766 (by decide +kernel) rfl ⟨(Nat.le_of_ble_eq_true rfl), (Nat.le_of_ble_eq_true rfl)⟩ 0 (ci := 4) rfl rfl [0, 1, 2, 3] rfl rfl (Nat.le_of_ble_eq_true rfl) dX4_endsNext_3 ⟨(Nat.le_of_ble_eq_true rfl), (Nat.le_of_ble_eq_true rfl)⟩ rfl (fun r w1 H locs hQ V => ?_)
  obtain ⟨hc_, hd_, rfl, rfl, f_1⟩ := hQ
  have V : gW D T A s [(e0, .inr (4, [.ref e1, .ref e2, .int (nI em), .ref e3, .ref e4, .ref e5, .ref e6])), (e3, .inl (T 0, 3, .inl hc_)), (e4, .inl (T 0, 3, .inl hd_)), (a0, .inr (5, [.int (nI an), .int am, .int al, .int ao, .int au, .ref a1, .ref a2, .ref a3, .ref a4, .ref a5, .ref a6, .ref a7, .ref a8, .ref a9, .ref a10])), (a4, .inl (T 0, 10, .inl af4)), (a5, .inl (T 0, 10, .inl af5)), (a6, .inl (T 0, 10, .inl af6))] H locs := V _ [0, 0, 0, 0] rfl rfl rfl (by decide +kernel) rfl
  show W p l e _ s m args below meth c H locs _ _ _ (F0 m 6 ls [])
  have hun := f_1
  refine lv_iconst (v := (nI 0)) hx hb dX4_endsNext_6 (by decide +kernel) ?_
  refine lv_istore (lv' := [(4, .int (nI 0)), (0, .ref e0), (1, .ref a0), (2, .long v)]) hx hb dX4_endsNext_7 hl (by decide) rfl (fun ls hl => ?_)
  have L_2 : ∀ (fu : Nat) (k9 : Nat), k9 ≤ an → (∀ i, i < k9 → enP an fa st_ i) → an - k9 < fu → ∀ (H : Heap) (locs : List Loc) (ls : Array Slot), gW D T A s [(e0, .inr (4, [.ref e1, .ref e2, .int (nI em), .ref e3, .ref e4, .ref e5, .ref e6])), (e3, .inl (T 0, 3, .inl hc_)), (e4, .inl (T 0, 3, .inl hd_)), (a0, .inr (5, [.int (nI an), .int am, .int al, .int ao, .int au, .ref a1, .ref a2, .ref a3, .ref a4, .ref a5, .ref a6, .ref a7, .ref a8, .ref a9, .ref a10])), (a4, .inl (T 0, 10, .inl af4)), (a5, .inl (T 0, 10, .inl af5)), (a6, .inl (T 0, 10, .inl af6))] H locs → lv_has ls 6 [(4, .int (nI k9)), (0, .ref e0), (1, .ref a0), (2, .long v)] → W p l e (rmD 2 0 0) s m args below meth c H locs 0 0 (MQ below (gQ D A (q_e_endsNext_f T fa st_ e0 a0 v e1 e2 em e3 e4 e5 e6 ec ed an am al ao au a1 a2 a3 a4 a5 a6 a7 a8 a9 a10 af4 af5 af6)) args s 0 0 A) (F0 m 9 ls []) := by
    intro fu_9
    induction fu_9 with
    | zero => intro k9 hk9 hen hmu; exact absurd hmu (Nat.not_lt_zero _)
    | succ fu_9 ih_9 =>
      intro k9 hk9 hen hmu_9 H locs ls V hl
      refine lv_iload hx hb dX4_endsNext_9 (lv_at hl 0 rfl) ?_
      refine lv_aload_n hx hb dX4_endsNext_11 rfl (lv_at hl 2 rfl) ?_
      refine g_get hC V (ci := 5) uwX5 3 rfl rfl 0 (by decide) w_34 rfl rfl dX4_endsNext_12 ?_
      refine lv_icmp_ge (tgt := 84) hx hb dX4_endsNext_15 (by decide) (fun c_3 => ?_) (fun c_3 => ?_)
      · skip
        have c_3 := b_le (by omega) (by omega) c_3
        refine lv_iconst (v := (nI 1)) hx hb dX4_endsNext_84 (by decide +kernel) ?_
        exact g_zret (Qr := (q_e_endsNext_f T fa st_ e0 a0 v e1 e2 em e3 e4 e5 e6 ec ed an am al ao au a1 a2 a3 a4 a5 a6 a7 a8 a9 a10 af4 af5 af6)) hC V ⟨(Nat.le_of_ble_eq_true rfl), (Nat.le_of_ble_eq_true rfl)⟩ (by first | decide +kernel | exact rfl) (.inl ⟨hc_, hd_, rfl, rfl, (en_y hen (by omega))⟩) dX4_endsNext_85
      · skip
        have c_3 := b_nle (by omega) (by omega) c_3
        refine lv_aload_n hx hb dX4_endsNext_18 rfl (lv_at hl 1 rfl) ?_
        refine g_get hC V (ci := 4) uwX4 0 rfl rfl 4 (by decide) w_717 rfl rfl dX4_endsNext_19 ?_
        refine lv_iload hx hb dX4_endsNext_22 (lv_at hl 0 rfl) ?_
        refine g_iald hC V 2 rfl (vp_in_nI (by omega) (by omega)) (v := (hd_ k9)) (congrArg _ (nI_clamp (by omega))) dX4_endsNext_24 ?_
        refine lv_aload_n hx hb dX4_endsNext_25 rfl (lv_at hl 2 rfl) ?_
        refine g_get hC V (ci := 5) uwX5 3 rfl rfl 10 (by decide) w_75 rfl rfl dX4_endsNext_26 ?_
        refine lv_iload hx hb dX4_endsNext_29 (lv_at hl 0 rfl) ?_
        refine g_iald hC V 6 rfl (vp_in_nI (by omega) (by omega)) (v := (af6 k9)) (congrArg _ (nI_clamp (by omega))) dX4_endsNext_31 ?_
        refine lv_icmp_lt (tgt := 39) hx hb dX4_endsNext_32 (by decide) (fun c_4 => ?_) (fun c_4 => ?_)
        · skip
          refine lv_iconst (v := (nI 0)) hx hb dX4_endsNext_39 (by decide +kernel) ?_
          refine lv_istore (lv' := [(5, .int (nI 0)), (4, .int (nI k9)), (0, .ref e0), (1, .ref a0), (2, .long v)]) hx hb dX4_endsNext_40 hl (by decide) rfl (fun ls hl => ?_)
          refine lv_iload hx hb dX4_endsNext_42 (lv_at hl 0 rfl) ?_
          refine lv_if_ne (tgt := 78) hx hb dX4_endsNext_44 (by decide) (fun c => absurd (show (nI 0) = 0 by decide +kernel) c) (fun _ => ?_)
          refine lv_aload_n hx hb dX4_endsNext_47 rfl (lv_at hl 2 rfl) ?_
          refine g_get hC V (ci := 4) uwX4 0 rfl rfl 4 (by decide) w_717 rfl rfl dX4_endsNext_48 ?_
          refine lv_iload hx hb dX4_endsNext_51 (lv_at hl 1 rfl) ?_
          refine g_iald hC V 2 rfl (vp_in_nI (by omega) (by omega)) (v := (hd_ k9)) (congrArg _ (nI_clamp (by omega))) dX4_endsNext_53 ?_
          refine lv_iconst (v := (nI 1)) hx hb dX4_endsNext_54 (by decide +kernel) ?_
          refine lv_iadd hx hb dX4_endsNext_55 ?_
          refine lv_aload_n hx hb dX4_endsNext_56 rfl (lv_at hl 3 rfl) ?_
          refine g_get hC V (ci := 5) uwX5 3 rfl rfl 10 (by decide) w_75 rfl rfl dX4_endsNext_57 ?_
          refine lv_iload hx hb dX4_endsNext_60 (lv_at hl 1 rfl) ?_
          refine g_iald hC V 6 rfl (vp_in_nI (by omega) (by omega)) (v := (af6 k9)) (congrArg _ (nI_clamp (by omega))) dX4_endsNext_62 ?_
          refine lv_icmp_lt (tgt := 76) hx hb dX4_endsNext_63 (by decide) (fun c_5 => ?_) (fun c_5 => ?_)
          · skip
            refine lv_iconst (v := (nI 0)) hx hb dX4_endsNext_76 (by decide +kernel) ?_
            exact g_zret (Qr := (q_e_endsNext_f T fa st_ e0 a0 v e1 e2 em e3 e4 e5 e6 ec ed an am al ao au a1 a2 a3 a4 a5 a6 a7 a8 a9 a10 af4 af5 af6)) hC V ⟨(Nat.le_of_ble_eq_true rfl), (Nat.le_of_ble_eq_true rfl)⟩ (by first | decide +kernel | exact rfl) (.inr ⟨hc_, hd_, rfl, rfl, (en_n1 (by omega) (by omega) hun (h_s6 _ (by omega)) c_4 c_5)⟩) dX4_endsNext_77
          · skip
            refine lv_aload_n hx hb dX4_endsNext_66 rfl (lv_at hl 2 rfl) ?_
            refine lv_aload_n hx hb dX4_endsNext_67 rfl (lv_at hl 3 rfl) ?_
            refine lv_iload hx hb dX4_endsNext_68 (lv_at hl 1 rfl) ?_
            refine g_callV (wr := []) (nA := 2) hC V hl.1 (e_canStrike_f l D T fa st_ e0 a0 k9 e1 e2 em e3 e4 e5 e6 hc_ hd_ an am al ao au a1 a2 a3 a4 a5 a6 a7 a8 a9 a10 af4 af5 af6 (by first | assumption | omega) (by first | assumption | omega) hun (by first | assumption | omega) (by first | assumption | omega) (by first | assumption | omega)) w_767 w_769 w_s28 w_18 w_770 (by decide +kernel) rfl ⟨(Nat.le_of_ble_eq_true rfl), (Nat.le_of_ble_eq_true rfl)⟩ 0 (ci := 4) rfl rfl [0, 1, 2, 3, 4, 5, 6] [] rfl rfl rfl rfl (by decide) (Nat.le_of_ble_eq_true rfl) dX4_endsNext_70 ⟨(Nat.le_of_ble_eq_true rfl), (Nat.le_of_ble_eq_true rfl)⟩ rfl (fun r w1 H locs hQ V => ?_)
            rcases hQ with ⟨rfl, rfl, f_6⟩ | ⟨rfl, rfl, f_7⟩
            · have V : gW D T A s [(e0, .inr (4, [.ref e1, .ref e2, .int (nI em), .ref e3, .ref e4, .ref e5, .ref e6])), (e3, .inl (T 0, 3, .inl hc_)), (e4, .inl (T 0, 3, .inl hd_)), (a0, .inr (5, [.int (nI an), .int am, .int al, .int ao, .int au, .ref a1, .ref a2, .ref a3, .ref a4, .ref a5, .ref a6, .ref a7, .ref a8, .ref a9, .ref a10])), (a4, .inl (T 0, 10, .inl af4)), (a5, .inl (T 0, 10, .inl af5)), (a6, .inl (T 0, 10, .inl af6))] H locs := V
              show W p l e _ s m args below meth c H locs _ _ _ (F0 m 73 ls [.int (nI 1)])
              refine lv_if_ne (tgt := 78) hx hb dX4_endsNext_73 (by decide) (fun _ => ?_) (fun c => absurd (show (nI 1) = 0 from c) (by decide +kernel))
              refine lv_iinc (v := (nI (k9 + 1))) (lv' := [(4, .int (nI (k9 + 1))), (5, .int (nI 0)), (0, .ref e0), (1, .ref a0), (2, .long v)]) hx hb dX4_endsNext_78 hl (k := 1) rfl (nI_1 _) (by decide) rfl (fun ls hl => ?_)
              refine lv_goto (tgt := 9) hx hb dX4_endsNext_81 (by decide) ?_
              exact ih_9 (k9 + 1) (by omega) (fun i hi => if q : i = k9 then by rw [q]; exact (en_r (by omega) (by omega) hun (h_s6 _ (by omega)) c_5 f_6) else hen i (by omega)) (by omega) _ _ _ V (lv_sub hl [0, 2, 3, 4] rfl)
            · have V : gW D T A s [(e0, .inr (4, [.ref e1, .ref e2, .int (nI em), .ref e3, .ref e4, .ref e5, .ref e6])), (e3, .inl (T 0, 3, .inl hc_)), (e4, .inl (T 0, 3, .inl hd_)), (a0, .inr (5, [.int (nI an), .int am, .int al, .int ao, .int au, .ref a1, .ref a2, .ref a3, .ref a4, .ref a5, .ref a6, .ref a7, .ref a8, .ref a9, .ref a10])), (a4, .inl (T 0, 10, .inl af4)), (a5, .inl (T 0, 10, .inl af5)), (a6, .inl (T 0, 10, .inl af6))] H locs := V
              show W p l e _ s m args below meth c H locs _ _ _ (F0 m 73 ls [.int (nI 0)])
              refine lv_if_ne (tgt := 78) hx hb dX4_endsNext_73 (by decide) (fun c => absurd (show (nI 0) = 0 by decide +kernel) c) (fun _ => ?_)
              refine lv_iconst (v := (nI 0)) hx hb dX4_endsNext_76 (by decide +kernel) ?_
              exact g_zret (Qr := (q_e_endsNext_f T fa st_ e0 a0 v e1 e2 em e3 e4 e5 e6 ec ed an am al ao au a1 a2 a3 a4 a5 a6 a7 a8 a9 a10 af4 af5 af6)) hC V ⟨(Nat.le_of_ble_eq_true rfl), (Nat.le_of_ble_eq_true rfl)⟩ (by first | decide +kernel | exact rfl) (.inr ⟨hc_, hd_, rfl, rfl, (en_n2 (by omega) (by omega) hun (h_s6 _ (by omega)) c_4 f_7)⟩) dX4_endsNext_77
        · skip
          refine lv_iconst (v := (nI 1)) hx hb dX4_endsNext_35 (by decide +kernel) ?_
          refine lv_goto (tgt := 40) hx hb dX4_endsNext_36 (by decide) ?_
          refine lv_istore (lv' := [(5, .int (nI 1)), (4, .int (nI k9)), (0, .ref e0), (1, .ref a0), (2, .long v)]) hx hb dX4_endsNext_40 hl (by decide) rfl (fun ls hl => ?_)
          refine lv_iload hx hb dX4_endsNext_42 (lv_at hl 0 rfl) ?_
          refine lv_if_ne (tgt := 78) hx hb dX4_endsNext_44 (by decide) (fun _ => ?_) (fun c => absurd (show (nI 1) = 0 from c) (by decide +kernel))
          refine lv_iinc (v := (nI (k9 + 1))) (lv' := [(4, .int (nI (k9 + 1))), (5, .int (nI 1)), (0, .ref e0), (1, .ref a0), (2, .long v)]) hx hb dX4_endsNext_78 hl (k := 1) rfl (nI_1 _) (by decide) rfl (fun ls hl => ?_)
          refine lv_goto (tgt := 9) hx hb dX4_endsNext_81 (by decide) ?_
          exact ih_9 (k9 + 1) (by omega) (fun i hi => if q : i = k9 then by rw [q]; exact (en_l (by omega) (by omega) hun (h_s6 _ (by omega)) c_4) else hen i (by omega)) (by omega) _ _ _ V (lv_sub hl [0, 2, 3, 4] rfl)
  exact L_2 _ 0 (by omega) (fun i h => absurd h (Nat.not_lt_zero _)) (Nat.lt_succ_self _) _ _ _ V (lv_sub hl [0, 1, 2, 3] rfl)

def q_e_behind_f (T : Nat → ClassId) (fa : Nat → Int32) (st_ : List Nat) (pl_ : Nat) (ec_ : Nat → Int32) (e0 : Nat) (a0 : Nat) (sk : Nat) (e1 : Nat) (e2 : Nat) (em : Nat) (e3 : Nat) (e4 : Nat) (e5 : Nat) (e6 : Nat) (ed : Nat → Int32) (ee : Nat → Int32) (an : Nat) (am : Int32) (al : Int32) (ao : Int32) (au : Int32) (a1 : Nat) (a2 : Nat) (a3 : Nat) (a4 : Nat) (a5 : Nat) (a6 : Nat) (a7 : Nat) (a8 : Nat) (a9 : Nat) (a10 : Nat) (af5 : Nat → Int32) (af6 : Nat → Int32) : Option Value → va_W → Prop := fun rr ww => (∃ (z : Int64), rr = some (.long z) ∧ ww = [(e0, .inr (4, [.ref e1, .ref e2, .int (nI em), .ref e3, .ref e4, .ref e5, .ref e6])), (e4, .inl (T 0, 3, .inl ed)), (e5, .inl (T 0, 3, .inl ee)), (a0, .inr (5, [.int (nI an), .int am, .int al, .int ao, .int au, .ref a1, .ref a2, .ref a3, .ref a4, .ref a5, .ref a6, .ref a7, .ref a8, .ref a9, .ref a10])), (a5, .inl (T 0, 10, .inl af5)), (a6, .inl (T 0, 10, .inl af6))] ∧ z = cC (nx an fa st_ pl_ sk))
set_option maxHeartbeats 4000000 in
set_option maxRecDepth 100000 in
theorem e_behind_f (l : Launch) (D : va_G) (T : Nat → ClassId) (fa : Nat → Int32) (st_ : List Nat) (pl_ : Nat) (ec_ : Nat → Int32) (e0 : Nat) (a0 : Nat) (sk : Nat) (e1 : Nat) (e2 : Nat) (em : Nat) (e3 : Nat) (e4 : Nat) (e5 : Nat) (e6 : Nat) (ed : Nat → Int32) (ee : Nat → Int32) (an : Nat) (am : Int32) (al : Int32) (ao : Int32) (au : Int32) (a1 : Nat) (a2 : Nat) (a3 : Nat) (a4 : Nat) (a5 : Nat) (a6 : Nat) (a7 : Nat) (a8 : Nat) (a9 : Nat) (a10 : Nat) (af5 : Nat → Int32) (af6 : Nat → Int32) (h_n : an ≤ 3) (h_a : MI an fa) (h_vs : VS an st_) (h_un : UN an st_ ec_ ed) (h_e5 : ∀ i, i < an → ee i = hNw an (stF an fa st_) (nI pl_) (-1) (nI 0) i) (h_k : ∀ i, i < an → bitP (nI sk) i → abP (stF an fa st_) i) (h_o : ao = fa 2) (h_s5 : ∀ i, i < an → af5 i = fa (44 + i)) (h_s6 : ∀ i, i < an → af6 i = fa (54 + i)) : Ct l yX4_behindStrokes cX4_behindStrokes 7 (some .long) 1 0 0 D T [.ref e0, .ref a0, .int (nI sk)] [(e0, .inr (4, [.ref e1, .ref e2, .int (nI em), .ref e3, .ref e4, .ref e5, .ref e6])), (e4, .inl (T 0, 3, .inl ed)), (e5, .inl (T 0, 3, .inl ee)), (a0, .inr (5, [.int (nI an), .int am, .int al, .int ao, .int au, .ref a1, .ref a2, .ref a3, .ref a4, .ref a5, .ref a6, .ref a7, .ref a8, .ref a9, .ref a10])), (a5, .inl (T 0, 10, .inl af5)), (a6, .inl (T 0, 10, .inl af6))] (q_e_behind_f T fa st_ pl_ ec_ e0 a0 sk e1 e2 em e3 e4 e5 e6 ed ee an am al ao au a1 a2 a3 a4 a5 a6 a7 a8 a9 a10 af5 af6) := by
  refine Ct.of (cc := cX4_behindStrokes) (maxL := 7) (ret := (some .long)) (by decide) (Nat.le_of_ble_eq_true rfl) ?_
  intro p e s m args below meth c A ls hC hnm V hl
  obtain ⟨hx, hb, hr, hml, hown, hts, hlocks⟩ := id hC
  generalize hH : s.heap = H at V ⊢
  clear hH
  have hl : lv_has ls 7 [(0, .ref e0), (1, .ref a0), (2, .int (nI sk))] := hl
  generalize hlo : ([] : List Loc) = locs at V ⊢
  clear hlo
  have hb5 : ∀ i, i < an → bd (ee i) 201 := fun i hi => by rw [h_e5 i hi]; exact ibf_bd _
  refine lv_lconst (v := (nI 0).toInt64) hx hb dX4_behindStrokes_0 (by decide +kernel) ?_
  refine lv_lstore_n (lv' := [(3, .long (nI 0).toInt64), (0, .ref e0), (1, .ref a0), (2, .int (nI sk))]) hx hb dX4_behindStrokes_1 rfl hl (by decide) rfl (fun ls hl => ?_)
  refine lv_iconst (v := (nI 0)) hx hb dX4_behindStrokes_2 (by decide +kernel) ?_
  refine lv_istore (lv' := [(5, .int (nI 0)), (3, .long (nI 0).toInt64), (0, .ref e0), (1, .ref a0), (2, .int (nI sk))]) hx hb dX4_behindStrokes_3 hl (by decide) rfl (fun ls hl => ?_)
  have L_1 : ∀ (fu : Nat) (k5 : Nat) (x3 : Int64), k5 ≤ an → x3 = cC (rdF k5 (goF an (stF an fa st_) (nI pl_) (nI sk) (-1) (nI 0))) → an - k5 < fu → ∀ (H : Heap) (locs : List Loc) (ls : Array Slot), gW D T A s [(e0, .inr (4, [.ref e1, .ref e2, .int (nI em), .ref e3, .ref e4, .ref e5, .ref e6])), (e4, .inl (T 0, 3, .inl ed)), (e5, .inl (T 0, 3, .inl ee)), (a0, .inr (5, [.int (nI an), .int am, .int al, .int ao, .int au, .ref a1, .ref a2, .ref a3, .ref a4, .ref a5, .ref a6, .ref a7, .ref a8, .ref a9, .ref a10])), (a5, .inl (T 0, 10, .inl af5)), (a6, .inl (T 0, 10, .inl af6))] H locs → lv_has ls 7 [(5, .int (nI k5)), (3, .long x3), (0, .ref e0), (1, .ref a0), (2, .int (nI sk))] → W p l e (rmD 1 0 0) s m args below meth c H locs 0 0 (MQ below (gQ D A (q_e_behind_f T fa st_ pl_ ec_ e0 a0 sk e1 e2 em e3 e4 e5 e6 ed ee an am al ao au a1 a2 a3 a4 a5 a6 a7 a8 a9 a10 af5 af6)) args s 0 0 A) (F0 m 5 ls []) := by
    intro fu_5
    induction fu_5 with
    | zero => intro k5 x3 hk5 hx3 hmu; exact absurd hmu (Nat.not_lt_zero _)
    | succ fu_5 ih_5 =>
      intro k5 x3 hk5 hx3 hmu_5 H locs ls V hl
      refine lv_iload hx hb dX4_behindStrokes_5 (lv_at hl 0 rfl) ?_
      refine lv_aload_n hx hb dX4_behindStrokes_7 rfl (lv_at hl 3 rfl) ?_
      refine g_get hC V (ci := 5) uwX5 3 rfl rfl 0 (by decide) w_34 rfl rfl dX4_behindStrokes_8 ?_
      refine lv_icmp_ge (tgt := 109) hx hb dX4_behindStrokes_11 (by decide) (fun c_2 => ?_) (fun c_2 => ?_)
      · skip
        have c_2 := b_le (by omega) (by omega) c_2
        refine lv_lload_n hx hb dX4_behindStrokes_109 rfl (lv_at hl 1 rfl) ?_
        exact g_lret (Qr := (q_e_behind_f T fa st_ pl_ ec_ e0 a0 sk e1 e2 em e3 e4 e5 e6 ed ee an am al ao au a1 a2 a3 a4 a5 a6 a7 a8 a9 a10 af5 af6)) hC V ⟨(Nat.le_of_ble_eq_true rfl), (Nat.le_of_ble_eq_true rfl)⟩ ⟨x3, rfl, rfl, (hx3.trans (by unfold nx; congr 2; omega))⟩ dX4_behindStrokes_110
      · skip
        have c_2 := b_nle (by omega) (by omega) c_2
        refine lv_iload_n hx hb dX4_behindStrokes_14 rfl (lv_at hl 4 rfl) ?_
        refine lv_iload hx hb dX4_behindStrokes_15 (lv_at hl 0 rfl) ?_
        refine g_callSNU (nA := 2) (host := RX7) hC V hl.1 (c_isIn_f l D T (nI sk) k5) w_472 (List.mem_of_getElem? (i := 12) rfl) w_2 w_471 (by decide +kernel) rfl ⟨(Nat.le_of_ble_eq_true rfl), (Nat.le_of_ble_eq_true rfl)⟩ [] rfl rfl (Nat.le_of_ble_eq_true rfl) dX4_behindStrokes_17 ⟨(Nat.le_of_ble_eq_true rfl), (Nat.le_of_ble_eq_true rfl)⟩ rfl (fun r w1 H locs hQ V => ?_)
        rcases hQ with ⟨rfl, rfl, f_3⟩ | ⟨rfl, rfl, f_4⟩
        · have V : gW D T A s [(e0, .inr (4, [.ref e1, .ref e2, .int (nI em), .ref e3, .ref e4, .ref e5, .ref e6])), (e4, .inl (T 0, 3, .inl ed)), (e5, .inl (T 0, 3, .inl ee)), (a0, .inr (5, [.int (nI an), .int am, .int al, .int ao, .int au, .ref a1, .ref a2, .ref a3, .ref a4, .ref a5, .ref a6, .ref a7, .ref a8, .ref a9, .ref a10])), (a5, .inl (T 0, 10, .inl af5)), (a6, .inl (T 0, 10, .inl af6))] H locs := V _ [] rfl rfl rfl (by decide +kernel) rfl
          show W p l e _ s m args below meth c H locs _ _ _ (F0 m 20 ls [.int (nI 1)])
          refine lv_if_eq (tgt := 35) hx hb dX4_behindStrokes_20 (by decide) (fun c => absurd (show (nI 1) = 0 from c) (by decide +kernel)) (fun _ => ?_)
          refine lv_aload_n hx hb dX4_behindStrokes_23 rfl (lv_at hl 2 rfl) ?_
          refine g_get hC V (ci := 4) uwX4 0 rfl rfl 4 (by decide) w_717 rfl rfl dX4_behindStrokes_24 ?_
          refine lv_iload hx hb dX4_behindStrokes_27 (lv_at hl 0 rfl) ?_
          refine g_iald hC V 1 rfl (vp_in_nI (by omega) (by omega)) (v := (ed k5)) (congrArg _ (nI_clamp (by omega))) dX4_behindStrokes_29 ?_
          refine lv_iconst (v := (nI 1)) hx hb dX4_behindStrokes_30 (by decide +kernel) ?_
          refine lv_iadd hx hb dX4_behindStrokes_31 ?_
          refine lv_goto (tgt := 42) hx hb dX4_behindStrokes_32 (by decide) ?_
          refine lv_istore (lv' := [(6, .int ((ed k5) + (nI 1))), (5, .int (nI k5)), (3, .long x3), (0, .ref e0), (1, .ref a0), (2, .int (nI sk))]) hx hb dX4_behindStrokes_42 hl (by decide) rfl (fun ls hl => ?_)
          refine lv_iload hx hb dX4_behindStrokes_44 (lv_at hl 0 rfl) ?_
          refine lv_aload_n hx hb dX4_behindStrokes_46 rfl (lv_at hl 4 rfl) ?_
          refine g_get hC V (ci := 5) uwX5 3 rfl rfl 10 (by decide) w_75 rfl rfl dX4_behindStrokes_47 ?_
          refine lv_iload hx hb dX4_behindStrokes_50 (lv_at hl 1 rfl) ?_
          refine g_iald hC V 5 rfl (vp_in_nI (by omega) (by omega)) (v := (af6 k5)) (congrArg _ (nI_clamp (by omega))) dX4_behindStrokes_52 ?_
          refine lv_icmp_ge (tgt := 86) hx hb dX4_behindStrokes_53 (by decide) (fun c_5 => ?_) (fun c_5 => ?_)
          · skip
            have hs2 : ((ed k5) + (nI 1)) = st2 an (stF an fa st_) (nI pl_) (nI sk) (-1) (nI 0) k5 := (b2_a (pl := nI pl_) (fi := -1) (mr := nI 0) (by omega) (by omega) (bq_y (by omega) (by omega) h_un f_3 (h_k _ (by omega) f_3)) (h_s6 _ (by omega)) c_5)
            obtain ⟨jb, hjb, ejb⟩ : bd ((ed k5) + (nI 1)) 32 := by rw [hs2]; exact s2_bd h_a h_vs (by omega)
            rw [ejb] at hl
            refine lv_lload_n hx hb dX4_behindStrokes_86 rfl (lv_at hl 2 rfl) ?_
            refine lv_iload hx hb dX4_behindStrokes_87 (lv_at hl 1 rfl) ?_
            refine lv_aload_n hx hb dX4_behindStrokes_89 rfl (lv_at hl 3 rfl) ?_
            refine g_get hC V (ci := 4) uwX4 0 rfl rfl 5 (by decide) w_718 rfl rfl dX4_behindStrokes_90 ?_
            refine lv_iload hx hb dX4_behindStrokes_93 (lv_at hl 1 rfl) ?_
            obtain ⟨j_6, hj_6, ej_6⟩ := bd_ex (hb5 k5 (by omega))
            refine g_iald hC V 2 rfl (vp_in_nI (by omega) (by omega)) (v := (nI j_6)) (by rw [nI_clamp (by omega)]; exact ej_6) dX4_behindStrokes_95 ?_
            refine lv_iload hx hb dX4_behindStrokes_96 (lv_at hl 0 rfl) ?_
            refine g_callSU (nA := 3) hC V hl.1 (e_packed_f l D T k5 j_6 jb (by omega) (by omega) (by omega)) w_751 w_752 w_18 w_753 (by decide +kernel) rfl ⟨(Nat.le_of_ble_eq_true rfl), (Nat.le_of_ble_eq_true rfl)⟩ [] rfl rfl (Nat.le_of_ble_eq_true rfl) dX4_behindStrokes_98 ⟨(Nat.le_of_ble_eq_true rfl), (Nat.le_of_ble_eq_true rfl)⟩ rfl (fun r w1 H locs hQ V => ?_)
            obtain ⟨rfl, rfl⟩ := hQ
            have V : gW D T A s [(e0, .inr (4, [.ref e1, .ref e2, .int (nI em), .ref e3, .ref e4, .ref e5, .ref e6])), (e4, .inl (T 0, 3, .inl ed)), (e5, .inl (T 0, 3, .inl ee)), (a0, .inr (5, [.int (nI an), .int am, .int al, .int ao, .int au, .ref a1, .ref a2, .ref a3, .ref a4, .ref a5, .ref a6, .ref a7, .ref a8, .ref a9, .ref a10])), (a5, .inl (T 0, 10, .inl af5)), (a6, .inl (T 0, 10, .inl af6))] H locs := V _ [] rfl rfl rfl (by decide +kernel) rfl
            show W p l e _ s m args below meth c H locs _ _ _ (F0 m 101 ls [.long (Int64.ofNat (8192 ^ k5 * (32 * j_6 + jb))), .long x3])
            refine lv_lor hx hb dX4_behindStrokes_101 ?_
            refine lv_lstore_n (lv' := [(3, .long (x3 ||| (Int64.ofNat (8192 ^ k5 * (32 * j_6 + jb))))), (6, .int (nI jb)), (5, .int (nI k5)), (0, .ref e0), (1, .ref a0), (2, .int (nI sk))]) hx hb dX4_behindStrokes_102 rfl hl (by decide) rfl (fun ls hl => ?_)
            refine lv_iinc (v := (nI (k5 + 1))) (lv' := [(5, .int (nI (k5 + 1))), (3, .long (x3 ||| (Int64.ofNat (8192 ^ k5 * (32 * j_6 + jb))))), (6, .int (nI jb)), (0, .ref e0), (1, .ref a0), (2, .int (nI sk))]) hx hb dX4_behindStrokes_103 hl (k := 2) rfl (nI_1 _) (by decide) rfl (fun ls hl => ?_)
            refine lv_goto (tgt := 5) hx hb dX4_behindStrokes_106 (by decide) ?_
            exact ih_5 (k5 + 1) (x3 ||| (Int64.ofNat (8192 ^ k5 * (32 * j_6 + jb)))) (by omega) (rd_or hx3 (go_vs h_a h_vs (by omega)) (go_xc (by omega) (by omega) (h_e5 _ (by omega)) hs2 ej_6 ejb (by omega) (by omega))) (by omega) _ _ _ V (lv_sub hl [0, 1, 3, 4, 5] rfl)
          · skip
            refine lv_aload_n hx hb dX4_behindStrokes_56 rfl (lv_at hl 3 rfl) ?_
            refine g_get hC V (ci := 4) uwX4 0 rfl rfl 5 (by decide) w_718 rfl rfl dX4_behindStrokes_57 ?_
            refine lv_iload hx hb dX4_behindStrokes_60 (lv_at hl 1 rfl) ?_
            obtain ⟨j_7, hj_7, ej_7⟩ := bd_ex (hb5 k5 (by omega))
            refine g_iald hC V 2 rfl (vp_in_nI (by omega) (by omega)) (v := (nI j_7)) (by rw [nI_clamp (by omega)]; exact ej_7) dX4_behindStrokes_62 ?_
            refine lv_aload_n hx hb dX4_behindStrokes_63 rfl (lv_at hl 4 rfl) ?_
            refine g_get hC V (ci := 5) uwX5 3 rfl rfl 9 (by decide) w_73 rfl rfl dX4_behindStrokes_64 ?_
            refine lv_iload hx hb dX4_behindStrokes_67 (lv_at hl 1 rfl) ?_
            refine g_iald hC V 4 rfl (vp_in_nI (by omega) (by omega)) (v := (af5 k5)) (congrArg _ (nI_clamp (by omega))) dX4_behindStrokes_69 ?_
            refine lv_icmp_le (tgt := 86) hx hb dX4_behindStrokes_70 (by decide) (fun c_8 => ?_) (fun c_8 => ?_)
            · skip
              have hs2 : ((ed k5) + (nI 1)) = st2 an (stF an fa st_) (nI pl_) (nI sk) (-1) (nI 0) k5 := (b2_b (pl := nI pl_) (fi := -1) (mr := nI 0) (by omega) (by omega) (bq_y (by omega) (by omega) h_un f_3 (h_k _ (by omega) f_3)) (h_s5 _ (by omega)) ((ej_7).symm.trans (h_e5 _ (by omega))) c_8)
              obtain ⟨jb, hjb, ejb⟩ : bd ((ed k5) + (nI 1)) 32 := by rw [hs2]; exact s2_bd h_a h_vs (by omega)
              rw [ejb] at hl
              refine lv_lload_n hx hb dX4_behindStrokes_86 rfl (lv_at hl 2 rfl) ?_
              refine lv_iload hx hb dX4_behindStrokes_87 (lv_at hl 1 rfl) ?_
              refine lv_aload_n hx hb dX4_behindStrokes_89 rfl (lv_at hl 3 rfl) ?_
              refine g_get hC V (ci := 4) uwX4 0 rfl rfl 5 (by decide) w_718 rfl rfl dX4_behindStrokes_90 ?_
              refine lv_iload hx hb dX4_behindStrokes_93 (lv_at hl 1 rfl) ?_
              refine g_iald hC V 2 rfl (vp_in_nI (by omega) (by omega)) (v := (nI j_7)) (by rw [nI_clamp (by omega)]; exact ej_7) dX4_behindStrokes_95 ?_
              refine lv_iload hx hb dX4_behindStrokes_96 (lv_at hl 0 rfl) ?_
              refine g_callSU (nA := 3) hC V hl.1 (e_packed_f l D T k5 j_7 jb (by omega) (by omega) (by omega)) w_751 w_752 w_18 w_753 (by decide +kernel) rfl ⟨(Nat.le_of_ble_eq_true rfl), (Nat.le_of_ble_eq_true rfl)⟩ [] rfl rfl (Nat.le_of_ble_eq_true rfl) dX4_behindStrokes_98 ⟨(Nat.le_of_ble_eq_true rfl), (Nat.le_of_ble_eq_true rfl)⟩ rfl (fun r w1 H locs hQ V => ?_)
              obtain ⟨rfl, rfl⟩ := hQ
              have V : gW D T A s [(e0, .inr (4, [.ref e1, .ref e2, .int (nI em), .ref e3, .ref e4, .ref e5, .ref e6])), (e4, .inl (T 0, 3, .inl ed)), (e5, .inl (T 0, 3, .inl ee)), (a0, .inr (5, [.int (nI an), .int am, .int al, .int ao, .int au, .ref a1, .ref a2, .ref a3, .ref a4, .ref a5, .ref a6, .ref a7, .ref a8, .ref a9, .ref a10])), (a5, .inl (T 0, 10, .inl af5)), (a6, .inl (T 0, 10, .inl af6))] H locs := V _ [] rfl rfl rfl (by decide +kernel) rfl
              show W p l e _ s m args below meth c H locs _ _ _ (F0 m 101 ls [.long (Int64.ofNat (8192 ^ k5 * (32 * j_7 + jb))), .long x3])
              refine lv_lor hx hb dX4_behindStrokes_101 ?_
              refine lv_lstore_n (lv' := [(3, .long (x3 ||| (Int64.ofNat (8192 ^ k5 * (32 * j_7 + jb))))), (6, .int (nI jb)), (5, .int (nI k5)), (0, .ref e0), (1, .ref a0), (2, .int (nI sk))]) hx hb dX4_behindStrokes_102 rfl hl (by decide) rfl (fun ls hl => ?_)
              refine lv_iinc (v := (nI (k5 + 1))) (lv' := [(5, .int (nI (k5 + 1))), (3, .long (x3 ||| (Int64.ofNat (8192 ^ k5 * (32 * j_7 + jb))))), (6, .int (nI jb)), (0, .ref e0), (1, .ref a0), (2, .int (nI sk))]) hx hb dX4_behindStrokes_103 hl (k := 2) rfl (nI_1 _) (by decide) rfl (fun ls hl => ?_)
              refine lv_goto (tgt := 5) hx hb dX4_behindStrokes_106 (by decide) ?_
              exact ih_5 (k5 + 1) (x3 ||| (Int64.ofNat (8192 ^ k5 * (32 * j_7 + jb)))) (by omega) (rd_or hx3 (go_vs h_a h_vs (by omega)) (go_xc (by omega) (by omega) (h_e5 _ (by omega)) hs2 ej_7 ejb (by omega) (by omega))) (by omega) _ _ _ V (lv_sub hl [0, 1, 3, 4, 5] rfl)
            · skip
              refine lv_iconst (v := (nI 0)) hx hb dX4_behindStrokes_73 (by decide +kernel) ?_
              refine lv_iload hx hb dX4_behindStrokes_74 (lv_at hl 0 rfl) ?_
              refine lv_aload_n hx hb dX4_behindStrokes_76 rfl (lv_at hl 4 rfl) ?_
              refine g_get hC V (ci := 5) uwX5 3 rfl rfl 3 (by decide) w_47 rfl rfl dX4_behindStrokes_77 ?_
              refine lv_isub hx hb dX4_behindStrokes_80 ?_
              refine va_mmax hx hb (hml.trans hl.1.symm) hown (hts _ w_782) (hts _ w_392) (hts _ w_10) (hts _ w_393) (Nat.le_of_ble_eq_true rfl) (Nat.le_of_ble_eq_true rfl) (Nat.le_of_ble_eq_true rfl) (Nat.le_of_ble_eq_true rfl) dX4_behindStrokes_81 ?_
              refine lv_istore (lv' := [(6, .int (if (nI 0) < (((ed k5) + (nI 1)) - ao) then (((ed k5) + (nI 1)) - ao) else (nI 0))), (5, .int (nI k5)), (3, .long x3), (0, .ref e0), (1, .ref a0), (2, .int (nI sk))]) hx hb dX4_behindStrokes_84 hl (by decide) rfl (fun ls hl => ?_)
              have hs2 : (if (nI 0) < (((ed k5) + (nI 1)) - ao) then (((ed k5) + (nI 1)) - ao) else (nI 0)) = st2 an (stF an fa st_) (nI pl_) (nI sk) (-1) (nI 0) k5 := (b2_c (pl := nI pl_) (fi := -1) (mr := nI 0) h_a h_vs (by omega) (bq_y (by omega) (by omega) h_un f_3 (h_k _ (by omega) f_3)) (h_s6 _ (by omega)) (h_s5 _ (by omega)) ((ej_7).symm.trans (h_e5 _ (by omega))) h_o c_5 c_8)
              obtain ⟨jb, hjb, ejb⟩ : bd (if (nI 0) < (((ed k5) + (nI 1)) - ao) then (((ed k5) + (nI 1)) - ao) else (nI 0)) 32 := by rw [hs2]; exact s2_bd h_a h_vs (by omega)
              rw [ejb] at hl
              refine lv_lload_n hx hb dX4_behindStrokes_86 rfl (lv_at hl 2 rfl) ?_
              refine lv_iload hx hb dX4_behindStrokes_87 (lv_at hl 1 rfl) ?_
              refine lv_aload_n hx hb dX4_behindStrokes_89 rfl (lv_at hl 3 rfl) ?_
              refine g_get hC V (ci := 4) uwX4 0 rfl rfl 5 (by decide) w_718 rfl rfl dX4_behindStrokes_90 ?_
              refine lv_iload hx hb dX4_behindStrokes_93 (lv_at hl 1 rfl) ?_
              refine g_iald hC V 2 rfl (vp_in_nI (by omega) (by omega)) (v := (nI j_7)) (by rw [nI_clamp (by omega)]; exact ej_7) dX4_behindStrokes_95 ?_
              refine lv_iload hx hb dX4_behindStrokes_96 (lv_at hl 0 rfl) ?_
              refine g_callSU (nA := 3) hC V hl.1 (e_packed_f l D T k5 j_7 jb (by omega) (by omega) (by omega)) w_751 w_752 w_18 w_753 (by decide +kernel) rfl ⟨(Nat.le_of_ble_eq_true rfl), (Nat.le_of_ble_eq_true rfl)⟩ [] rfl rfl (Nat.le_of_ble_eq_true rfl) dX4_behindStrokes_98 ⟨(Nat.le_of_ble_eq_true rfl), (Nat.le_of_ble_eq_true rfl)⟩ rfl (fun r w1 H locs hQ V => ?_)
              obtain ⟨rfl, rfl⟩ := hQ
              have V : gW D T A s [(e0, .inr (4, [.ref e1, .ref e2, .int (nI em), .ref e3, .ref e4, .ref e5, .ref e6])), (e4, .inl (T 0, 3, .inl ed)), (e5, .inl (T 0, 3, .inl ee)), (a0, .inr (5, [.int (nI an), .int am, .int al, .int ao, .int au, .ref a1, .ref a2, .ref a3, .ref a4, .ref a5, .ref a6, .ref a7, .ref a8, .ref a9, .ref a10])), (a5, .inl (T 0, 10, .inl af5)), (a6, .inl (T 0, 10, .inl af6))] H locs := V _ [] rfl rfl rfl (by decide +kernel) rfl
              show W p l e _ s m args below meth c H locs _ _ _ (F0 m 101 ls [.long (Int64.ofNat (8192 ^ k5 * (32 * j_7 + jb))), .long x3])
              refine lv_lor hx hb dX4_behindStrokes_101 ?_
              refine lv_lstore_n (lv' := [(3, .long (x3 ||| (Int64.ofNat (8192 ^ k5 * (32 * j_7 + jb))))), (6, .int (nI jb)), (5, .int (nI k5)), (0, .ref e0), (1, .ref a0), (2, .int (nI sk))]) hx hb dX4_behindStrokes_102 rfl hl (by decide) rfl (fun ls hl => ?_)
              refine lv_iinc (v := (nI (k5 + 1))) (lv' := [(5, .int (nI (k5 + 1))), (3, .long (x3 ||| (Int64.ofNat (8192 ^ k5 * (32 * j_7 + jb))))), (6, .int (nI jb)), (0, .ref e0), (1, .ref a0), (2, .int (nI sk))]) hx hb dX4_behindStrokes_103 hl (k := 2) rfl (nI_1 _) (by decide) rfl (fun ls hl => ?_)
              refine lv_goto (tgt := 5) hx hb dX4_behindStrokes_106 (by decide) ?_
              exact ih_5 (k5 + 1) (x3 ||| (Int64.ofNat (8192 ^ k5 * (32 * j_7 + jb)))) (by omega) (rd_or hx3 (go_vs h_a h_vs (by omega)) (go_xc (by omega) (by omega) (h_e5 _ (by omega)) hs2 ej_7 ejb (by omega) (by omega))) (by omega) _ _ _ V (lv_sub hl [0, 1, 3, 4, 5] rfl)
        · have V : gW D T A s [(e0, .inr (4, [.ref e1, .ref e2, .int (nI em), .ref e3, .ref e4, .ref e5, .ref e6])), (e4, .inl (T 0, 3, .inl ed)), (e5, .inl (T 0, 3, .inl ee)), (a0, .inr (5, [.int (nI an), .int am, .int al, .int ao, .int au, .ref a1, .ref a2, .ref a3, .ref a4, .ref a5, .ref a6, .ref a7, .ref a8, .ref a9, .ref a10])), (a5, .inl (T 0, 10, .inl af5)), (a6, .inl (T 0, 10, .inl af6))] H locs := V _ [] rfl rfl rfl (by decide +kernel) rfl
          show W p l e _ s m args below meth c H locs _ _ _ (F0 m 20 ls [.int (nI 0)])
          refine lv_if_eq (tgt := 35) hx hb dX4_behindStrokes_20 (by decide) (fun _ => ?_) (fun c => absurd (show (nI 0) = 0 by decide +kernel) c)
          refine lv_aload_n hx hb dX4_behindStrokes_35 rfl (lv_at hl 2 rfl) ?_
          refine g_get hC V (ci := 4) uwX4 0 rfl rfl 4 (by decide) w_717 rfl rfl dX4_behindStrokes_36 ?_
          refine lv_iload hx hb dX4_behindStrokes_39 (lv_at hl 0 rfl) ?_
          refine g_iald hC V 1 rfl (vp_in_nI (by omega) (by omega)) (v := (ed k5)) (congrArg _ (nI_clamp (by omega))) dX4_behindStrokes_41 ?_
          refine lv_istore (lv' := [(6, .int (ed k5)), (5, .int (nI k5)), (3, .long x3), (0, .ref e0), (1, .ref a0), (2, .int (nI sk))]) hx hb dX4_behindStrokes_42 hl (by decide) rfl (fun ls hl => ?_)
          refine lv_iload hx hb dX4_behindStrokes_44 (lv_at hl 0 rfl) ?_
          refine lv_aload_n hx hb dX4_behindStrokes_46 rfl (lv_at hl 4 rfl) ?_
          refine g_get hC V (ci := 5) uwX5 3 rfl rfl 10 (by decide) w_75 rfl rfl dX4_behindStrokes_47 ?_
          refine lv_iload hx hb dX4_behindStrokes_50 (lv_at hl 1 rfl) ?_
          refine g_iald hC V 5 rfl (vp_in_nI (by omega) (by omega)) (v := (af6 k5)) (congrArg _ (nI_clamp (by omega))) dX4_behindStrokes_52 ?_
          refine lv_icmp_ge (tgt := 86) hx hb dX4_behindStrokes_53 (by decide) (fun c_9 => ?_) (fun c_9 => ?_)
          · skip
            have hs2 : (ed k5) = st2 an (stF an fa st_) (nI pl_) (nI sk) (-1) (nI 0) k5 := (b2_a (pl := nI pl_) (fi := -1) (mr := nI 0) (by omega) (by omega) (bq_n (by omega) (by omega) h_un f_4) (h_s6 _ (by omega)) c_9)
            obtain ⟨jb, hjb, ejb⟩ : bd (ed k5) 32 := by rw [hs2]; exact s2_bd h_a h_vs (by omega)
            rw [ejb] at hl
            refine lv_lload_n hx hb dX4_behindStrokes_86 rfl (lv_at hl 2 rfl) ?_
            refine lv_iload hx hb dX4_behindStrokes_87 (lv_at hl 1 rfl) ?_
            refine lv_aload_n hx hb dX4_behindStrokes_89 rfl (lv_at hl 3 rfl) ?_
            refine g_get hC V (ci := 4) uwX4 0 rfl rfl 5 (by decide) w_718 rfl rfl dX4_behindStrokes_90 ?_
            refine lv_iload hx hb dX4_behindStrokes_93 (lv_at hl 1 rfl) ?_
            obtain ⟨j_10, hj_10, ej_10⟩ := bd_ex (hb5 k5 (by omega))
            refine g_iald hC V 2 rfl (vp_in_nI (by omega) (by omega)) (v := (nI j_10)) (by rw [nI_clamp (by omega)]; exact ej_10) dX4_behindStrokes_95 ?_
            refine lv_iload hx hb dX4_behindStrokes_96 (lv_at hl 0 rfl) ?_
            refine g_callSU (nA := 3) hC V hl.1 (e_packed_f l D T k5 j_10 jb (by omega) (by omega) (by omega)) w_751 w_752 w_18 w_753 (by decide +kernel) rfl ⟨(Nat.le_of_ble_eq_true rfl), (Nat.le_of_ble_eq_true rfl)⟩ [] rfl rfl (Nat.le_of_ble_eq_true rfl) dX4_behindStrokes_98 ⟨(Nat.le_of_ble_eq_true rfl), (Nat.le_of_ble_eq_true rfl)⟩ rfl (fun r w1 H locs hQ V => ?_)
            obtain ⟨rfl, rfl⟩ := hQ
            have V : gW D T A s [(e0, .inr (4, [.ref e1, .ref e2, .int (nI em), .ref e3, .ref e4, .ref e5, .ref e6])), (e4, .inl (T 0, 3, .inl ed)), (e5, .inl (T 0, 3, .inl ee)), (a0, .inr (5, [.int (nI an), .int am, .int al, .int ao, .int au, .ref a1, .ref a2, .ref a3, .ref a4, .ref a5, .ref a6, .ref a7, .ref a8, .ref a9, .ref a10])), (a5, .inl (T 0, 10, .inl af5)), (a6, .inl (T 0, 10, .inl af6))] H locs := V _ [] rfl rfl rfl (by decide +kernel) rfl
            show W p l e _ s m args below meth c H locs _ _ _ (F0 m 101 ls [.long (Int64.ofNat (8192 ^ k5 * (32 * j_10 + jb))), .long x3])
            refine lv_lor hx hb dX4_behindStrokes_101 ?_
            refine lv_lstore_n (lv' := [(3, .long (x3 ||| (Int64.ofNat (8192 ^ k5 * (32 * j_10 + jb))))), (6, .int (nI jb)), (5, .int (nI k5)), (0, .ref e0), (1, .ref a0), (2, .int (nI sk))]) hx hb dX4_behindStrokes_102 rfl hl (by decide) rfl (fun ls hl => ?_)
            refine lv_iinc (v := (nI (k5 + 1))) (lv' := [(5, .int (nI (k5 + 1))), (3, .long (x3 ||| (Int64.ofNat (8192 ^ k5 * (32 * j_10 + jb))))), (6, .int (nI jb)), (0, .ref e0), (1, .ref a0), (2, .int (nI sk))]) hx hb dX4_behindStrokes_103 hl (k := 2) rfl (nI_1 _) (by decide) rfl (fun ls hl => ?_)
            refine lv_goto (tgt := 5) hx hb dX4_behindStrokes_106 (by decide) ?_
            exact ih_5 (k5 + 1) (x3 ||| (Int64.ofNat (8192 ^ k5 * (32 * j_10 + jb)))) (by omega) (rd_or hx3 (go_vs h_a h_vs (by omega)) (go_xc (by omega) (by omega) (h_e5 _ (by omega)) hs2 ej_10 ejb (by omega) (by omega))) (by omega) _ _ _ V (lv_sub hl [0, 1, 3, 4, 5] rfl)
          · skip
            refine lv_aload_n hx hb dX4_behindStrokes_56 rfl (lv_at hl 3 rfl) ?_
            refine g_get hC V (ci := 4) uwX4 0 rfl rfl 5 (by decide) w_718 rfl rfl dX4_behindStrokes_57 ?_
            refine lv_iload hx hb dX4_behindStrokes_60 (lv_at hl 1 rfl) ?_
            obtain ⟨j_11, hj_11, ej_11⟩ := bd_ex (hb5 k5 (by omega))
            refine g_iald hC V 2 rfl (vp_in_nI (by omega) (by omega)) (v := (nI j_11)) (by rw [nI_clamp (by omega)]; exact ej_11) dX4_behindStrokes_62 ?_
            refine lv_aload_n hx hb dX4_behindStrokes_63 rfl (lv_at hl 4 rfl) ?_
            refine g_get hC V (ci := 5) uwX5 3 rfl rfl 9 (by decide) w_73 rfl rfl dX4_behindStrokes_64 ?_
            refine lv_iload hx hb dX4_behindStrokes_67 (lv_at hl 1 rfl) ?_
            refine g_iald hC V 4 rfl (vp_in_nI (by omega) (by omega)) (v := (af5 k5)) (congrArg _ (nI_clamp (by omega))) dX4_behindStrokes_69 ?_
            refine lv_icmp_le (tgt := 86) hx hb dX4_behindStrokes_70 (by decide) (fun c_12 => ?_) (fun c_12 => ?_)
            · skip
              have hs2 : (ed k5) = st2 an (stF an fa st_) (nI pl_) (nI sk) (-1) (nI 0) k5 := (b2_b (pl := nI pl_) (fi := -1) (mr := nI 0) (by omega) (by omega) (bq_n (by omega) (by omega) h_un f_4) (h_s5 _ (by omega)) ((ej_11).symm.trans (h_e5 _ (by omega))) c_12)
              obtain ⟨jb, hjb, ejb⟩ : bd (ed k5) 32 := by rw [hs2]; exact s2_bd h_a h_vs (by omega)
              rw [ejb] at hl
              refine lv_lload_n hx hb dX4_behindStrokes_86 rfl (lv_at hl 2 rfl) ?_
              refine lv_iload hx hb dX4_behindStrokes_87 (lv_at hl 1 rfl) ?_
              refine lv_aload_n hx hb dX4_behindStrokes_89 rfl (lv_at hl 3 rfl) ?_
              refine g_get hC V (ci := 4) uwX4 0 rfl rfl 5 (by decide) w_718 rfl rfl dX4_behindStrokes_90 ?_
              refine lv_iload hx hb dX4_behindStrokes_93 (lv_at hl 1 rfl) ?_
              refine g_iald hC V 2 rfl (vp_in_nI (by omega) (by omega)) (v := (nI j_11)) (by rw [nI_clamp (by omega)]; exact ej_11) dX4_behindStrokes_95 ?_
              refine lv_iload hx hb dX4_behindStrokes_96 (lv_at hl 0 rfl) ?_
              refine g_callSU (nA := 3) hC V hl.1 (e_packed_f l D T k5 j_11 jb (by omega) (by omega) (by omega)) w_751 w_752 w_18 w_753 (by decide +kernel) rfl ⟨(Nat.le_of_ble_eq_true rfl), (Nat.le_of_ble_eq_true rfl)⟩ [] rfl rfl (Nat.le_of_ble_eq_true rfl) dX4_behindStrokes_98 ⟨(Nat.le_of_ble_eq_true rfl), (Nat.le_of_ble_eq_true rfl)⟩ rfl (fun r w1 H locs hQ V => ?_)
              obtain ⟨rfl, rfl⟩ := hQ
              have V : gW D T A s [(e0, .inr (4, [.ref e1, .ref e2, .int (nI em), .ref e3, .ref e4, .ref e5, .ref e6])), (e4, .inl (T 0, 3, .inl ed)), (e5, .inl (T 0, 3, .inl ee)), (a0, .inr (5, [.int (nI an), .int am, .int al, .int ao, .int au, .ref a1, .ref a2, .ref a3, .ref a4, .ref a5, .ref a6, .ref a7, .ref a8, .ref a9, .ref a10])), (a5, .inl (T 0, 10, .inl af5)), (a6, .inl (T 0, 10, .inl af6))] H locs := V _ [] rfl rfl rfl (by decide +kernel) rfl
              show W p l e _ s m args below meth c H locs _ _ _ (F0 m 101 ls [.long (Int64.ofNat (8192 ^ k5 * (32 * j_11 + jb))), .long x3])
              refine lv_lor hx hb dX4_behindStrokes_101 ?_
              refine lv_lstore_n (lv' := [(3, .long (x3 ||| (Int64.ofNat (8192 ^ k5 * (32 * j_11 + jb))))), (6, .int (nI jb)), (5, .int (nI k5)), (0, .ref e0), (1, .ref a0), (2, .int (nI sk))]) hx hb dX4_behindStrokes_102 rfl hl (by decide) rfl (fun ls hl => ?_)
              refine lv_iinc (v := (nI (k5 + 1))) (lv' := [(5, .int (nI (k5 + 1))), (3, .long (x3 ||| (Int64.ofNat (8192 ^ k5 * (32 * j_11 + jb))))), (6, .int (nI jb)), (0, .ref e0), (1, .ref a0), (2, .int (nI sk))]) hx hb dX4_behindStrokes_103 hl (k := 2) rfl (nI_1 _) (by decide) rfl (fun ls hl => ?_)
              refine lv_goto (tgt := 5) hx hb dX4_behindStrokes_106 (by decide) ?_
              exact ih_5 (k5 + 1) (x3 ||| (Int64.ofNat (8192 ^ k5 * (32 * j_11 + jb)))) (by omega) (rd_or hx3 (go_vs h_a h_vs (by omega)) (go_xc (by omega) (by omega) (h_e5 _ (by omega)) hs2 ej_11 ejb (by omega) (by omega))) (by omega) _ _ _ V (lv_sub hl [0, 1, 3, 4, 5] rfl)
            · skip
              refine lv_iconst (v := (nI 0)) hx hb dX4_behindStrokes_73 (by decide +kernel) ?_
              refine lv_iload hx hb dX4_behindStrokes_74 (lv_at hl 0 rfl) ?_
              refine lv_aload_n hx hb dX4_behindStrokes_76 rfl (lv_at hl 4 rfl) ?_
              refine g_get hC V (ci := 5) uwX5 3 rfl rfl 3 (by decide) w_47 rfl rfl dX4_behindStrokes_77 ?_
              refine lv_isub hx hb dX4_behindStrokes_80 ?_
              refine va_mmax hx hb (hml.trans hl.1.symm) hown (hts _ w_782) (hts _ w_392) (hts _ w_10) (hts _ w_393) (Nat.le_of_ble_eq_true rfl) (Nat.le_of_ble_eq_true rfl) (Nat.le_of_ble_eq_true rfl) (Nat.le_of_ble_eq_true rfl) dX4_behindStrokes_81 ?_
              refine lv_istore (lv' := [(6, .int (if (nI 0) < ((ed k5) - ao) then ((ed k5) - ao) else (nI 0))), (5, .int (nI k5)), (3, .long x3), (0, .ref e0), (1, .ref a0), (2, .int (nI sk))]) hx hb dX4_behindStrokes_84 hl (by decide) rfl (fun ls hl => ?_)
              have hs2 : (if (nI 0) < ((ed k5) - ao) then ((ed k5) - ao) else (nI 0)) = st2 an (stF an fa st_) (nI pl_) (nI sk) (-1) (nI 0) k5 := (b2_c (pl := nI pl_) (fi := -1) (mr := nI 0) h_a h_vs (by omega) (bq_n (by omega) (by omega) h_un f_4) (h_s6 _ (by omega)) (h_s5 _ (by omega)) ((ej_11).symm.trans (h_e5 _ (by omega))) h_o c_9 c_12)
              obtain ⟨jb, hjb, ejb⟩ : bd (if (nI 0) < ((ed k5) - ao) then ((ed k5) - ao) else (nI 0)) 32 := by rw [hs2]; exact s2_bd h_a h_vs (by omega)
              rw [ejb] at hl
              refine lv_lload_n hx hb dX4_behindStrokes_86 rfl (lv_at hl 2 rfl) ?_
              refine lv_iload hx hb dX4_behindStrokes_87 (lv_at hl 1 rfl) ?_
              refine lv_aload_n hx hb dX4_behindStrokes_89 rfl (lv_at hl 3 rfl) ?_
              refine g_get hC V (ci := 4) uwX4 0 rfl rfl 5 (by decide) w_718 rfl rfl dX4_behindStrokes_90 ?_
              refine lv_iload hx hb dX4_behindStrokes_93 (lv_at hl 1 rfl) ?_
              refine g_iald hC V 2 rfl (vp_in_nI (by omega) (by omega)) (v := (nI j_11)) (by rw [nI_clamp (by omega)]; exact ej_11) dX4_behindStrokes_95 ?_
              refine lv_iload hx hb dX4_behindStrokes_96 (lv_at hl 0 rfl) ?_
              refine g_callSU (nA := 3) hC V hl.1 (e_packed_f l D T k5 j_11 jb (by omega) (by omega) (by omega)) w_751 w_752 w_18 w_753 (by decide +kernel) rfl ⟨(Nat.le_of_ble_eq_true rfl), (Nat.le_of_ble_eq_true rfl)⟩ [] rfl rfl (Nat.le_of_ble_eq_true rfl) dX4_behindStrokes_98 ⟨(Nat.le_of_ble_eq_true rfl), (Nat.le_of_ble_eq_true rfl)⟩ rfl (fun r w1 H locs hQ V => ?_)
              obtain ⟨rfl, rfl⟩ := hQ
              have V : gW D T A s [(e0, .inr (4, [.ref e1, .ref e2, .int (nI em), .ref e3, .ref e4, .ref e5, .ref e6])), (e4, .inl (T 0, 3, .inl ed)), (e5, .inl (T 0, 3, .inl ee)), (a0, .inr (5, [.int (nI an), .int am, .int al, .int ao, .int au, .ref a1, .ref a2, .ref a3, .ref a4, .ref a5, .ref a6, .ref a7, .ref a8, .ref a9, .ref a10])), (a5, .inl (T 0, 10, .inl af5)), (a6, .inl (T 0, 10, .inl af6))] H locs := V _ [] rfl rfl rfl (by decide +kernel) rfl
              show W p l e _ s m args below meth c H locs _ _ _ (F0 m 101 ls [.long (Int64.ofNat (8192 ^ k5 * (32 * j_11 + jb))), .long x3])
              refine lv_lor hx hb dX4_behindStrokes_101 ?_
              refine lv_lstore_n (lv' := [(3, .long (x3 ||| (Int64.ofNat (8192 ^ k5 * (32 * j_11 + jb))))), (6, .int (nI jb)), (5, .int (nI k5)), (0, .ref e0), (1, .ref a0), (2, .int (nI sk))]) hx hb dX4_behindStrokes_102 rfl hl (by decide) rfl (fun ls hl => ?_)
              refine lv_iinc (v := (nI (k5 + 1))) (lv' := [(5, .int (nI (k5 + 1))), (3, .long (x3 ||| (Int64.ofNat (8192 ^ k5 * (32 * j_11 + jb))))), (6, .int (nI jb)), (0, .ref e0), (1, .ref a0), (2, .int (nI sk))]) hx hb dX4_behindStrokes_103 hl (k := 2) rfl (nI_1 _) (by decide) rfl (fun ls hl => ?_)
              refine lv_goto (tgt := 5) hx hb dX4_behindStrokes_106 (by decide) ?_
              exact ih_5 (k5 + 1) (x3 ||| (Int64.ofNat (8192 ^ k5 * (32 * j_11 + jb)))) (by omega) (rd_or hx3 (go_vs h_a h_vs (by omega)) (go_xc (by omega) (by omega) (h_e5 _ (by omega)) hs2 ej_11 ejb (by omega) (by omega))) (by omega) _ _ _ V (lv_sub hl [0, 1, 3, 4, 5] rfl)
  exact L_1 _ 0 ((nI 0).toInt64) (by omega) (cz_0 _) (Nat.lt_succ_self _) _ _ _ V (lv_sub hl [0, 1, 2, 3, 4] rfl)

def q_e_goOn_f (T : Nat → ClassId) (fa : Nat → Int32) (st_ : List Nat) (V_ : List (List Nat)) (e0 : Nat) (a0 : Nat) (v : Int64) (e1 : Nat) (e2 : Nat) (em : Nat) (e3 : Nat) (e4 : Nat) (e5 : Nat) (e6 : Nat) (ea : Nat → Int64) (eb : Nat → Int32) (ec : Nat → Int32) (ed : Nat → Int32) (ee : Nat → Int32) (ef : Nat → Int32) (an : Nat) (am : Int32) (al : Int32) (ao : Int32) (au : Int32) (a1 : Nat) (a2 : Nat) (a3 : Nat) (a4 : Nat) (a5 : Nat) (a6 : Nat) (a7 : Nat) (a8 : Nat) (a9 : Nat) (a10 : Nat) (af4 : Nat → Int32) (af5 : Nat → Int32) (af6 : Nat → Int32) : Option Value → va_W → Prop := fun rr ww => (∃ (em2 : Nat) (g1 : Nat → Int64) (g2 : Nat → Int32) (gc : Nat → Int32) (gd : Nat → Int32) (ge : Nat → Int32), rr = none ∧ ww = [(e0, .inr (4, [.ref e1, .ref e2, .int (nI em2), .ref e3, .ref e4, .ref e5, .ref e6])), (e1, .inl (T 1, 3001, .inr (.inl g1))), (e2, .inl (T 0, 8192, .inl g2)), (e3, .inl (T 0, 3, .inl gc)), (e4, .inl (T 0, 3, .inl gd)), (e5, .inl (T 0, 3, .inl ge)), (e6, .inl (T 0, 24, .inl ef)), (a0, .inr (5, [.int (nI an), .int am, .int al, .int ao, .int au, .ref a1, .ref a2, .ref a3, .ref a4, .ref a5, .ref a6, .ref a7, .ref a8, .ref a9, .ref a10])), (a4, .inl (T 0, 10, .inl af4)), (a5, .inl (T 0, 10, .inl af5)), (a6, .inl (T 0, 10, .inl af6))] ∧ HT (VS an) cC hsC (inA V_ (scC an fa st_)) em2 g1 g2)
set_option maxHeartbeats 4000000 in
set_option maxRecDepth 100000 in
theorem e_goOn_f (l : Launch) (D : va_G) (T : Nat → ClassId) (fa : Nat → Int32) (st_ : List Nat) (V_ : List (List Nat)) (e0 : Nat) (a0 : Nat) (v : Int64) (e1 : Nat) (e2 : Nat) (em : Nat) (e3 : Nat) (e4 : Nat) (e5 : Nat) (e6 : Nat) (ea : Nat → Int64) (eb : Nat → Int32) (ec : Nat → Int32) (ed : Nat → Int32) (ee : Nat → Int32) (ef : Nat → Int32) (an : Nat) (am : Int32) (al : Int32) (ao : Int32) (au : Int32) (a1 : Nat) (a2 : Nat) (a3 : Nat) (a4 : Nat) (a5 : Nat) (a6 : Nat) (a7 : Nat) (a8 : Nat) (a9 : Nat) (a10 : Nat) (af4 : Nat → Int32) (af5 : Nat → Int32) (af6 : Nat → Int32) (h_n : an ≤ 3) (h_a : MI an fa) (h_vs : VS an st_) (h_v : v = cC st_) (h_ht : HT (VS an) cC hsC V_ em ea eb) (h_ch : CHW an fa ef (2 ^ an) 0) (h_o : ao = fa 2) (h_s4 : ∀ i, i < an → af4 i = fa (34 + i)) (h_s5 : ∀ i, i < an → af5 i = fa (44 + i)) (h_s6 : ∀ i, i < an → af6 i = fa (54 + i)) : Ct l yX4_goOnFrom cX4_goOnFrom 7 none 2 0 0 D T [.ref e0, .ref a0, .long v] [(e0, .inr (4, [.ref e1, .ref e2, .int (nI em), .ref e3, .ref e4, .ref e5, .ref e6])), (e1, .inl (T 1, 3001, .inr (.inl ea))), (e2, .inl (T 0, 8192, .inl eb)), (e3, .inl (T 0, 3, .inl ec)), (e4, .inl (T 0, 3, .inl ed)), (e5, .inl (T 0, 3, .inl ee)), (e6, .inl (T 0, 24, .inl ef)), (a0, .inr (5, [.int (nI an), .int am, .int al, .int ao, .int au, .ref a1, .ref a2, .ref a3, .ref a4, .ref a5, .ref a6, .ref a7, .ref a8, .ref a9, .ref a10])), (a4, .inl (T 0, 10, .inl af4)), (a5, .inl (T 0, 10, .inl af5)), (a6, .inl (T 0, 10, .inl af6))] (q_e_goOn_f T fa st_ V_ e0 a0 v e1 e2 em e3 e4 e5 e6 ea eb ec ed ee ef an am al ao au a1 a2 a3 a4 a5 a6 a7 a8 a9 a10 af4 af5 af6) := by
  refine Ct.of (cc := cX4_goOnFrom) (maxL := 7) (ret := none) (by decide) (Nat.le_of_ble_eq_true rfl) ?_
  intro p e s m args below meth c A ls hC hnm V hl
  obtain ⟨hx, hb, hr, hml, hown, hts, hlocks⟩ := id hC
  generalize hH : s.heap = H at V ⊢
  clear hH
  have hl : lv_has ls 7 [(0, .ref e0), (1, .ref a0), (2, .long v)] := hl
  generalize hlo : ([] : List Loc) = locs at V ⊢
  clear hlo
  have hpw := pw3 h_n
  refine lv_aload_n hx hb dX4_goOnFrom_0 rfl (lv_at hl 0 rfl) ?_
  refine lv_aload_n hx hb dX4_goOnFrom_1 rfl (lv_at hl 1 rfl) ?_
  refine lv_lload_n hx hb dX4_goOnFrom_2 rfl (lv_at hl 2 rfl) ?_
  refine g_callVU (nA := 2) hC V hl.1 (e_unpack_f l D T st_ e0 a0 v e1 e2 em e3 e4 e5 e6 ec ed an am al ao au a1 a2 a3 a4 a5 a6 a7 a8 a9 a10 (by first | assumption | omega) h_vs h_v) w_763 w_765 w_s27 w_18 w_766 (by decide +kernel) rfl ⟨(Nat.le_of_ble_eq_true rfl), (Nat.le_of_ble_eq_true rfl)⟩ 0 (ci := 4) rfl rfl [0, 3, 4, 7] rfl rfl (Nat.le_of_ble_eq_true rfl) dX4_goOnFrom_3 ⟨(Nat.le_of_ble_eq_true rfl), (Nat.le_of_ble_eq_true rfl)⟩ rfl (fun r w1 H locs hQ V => ?_)
  obtain ⟨hc_, hd_, rfl, rfl, f_1⟩ := hQ
  have V : gW D T A s [(e0, .inr (4, [.ref e1, .ref e2, .int (nI em), .ref e3, .ref e4, .ref e5, .ref e6])), (e1, .inl (T 1, 3001, .inr (.inl ea))), (e2, .inl (T 0, 8192, .inl eb)), (e3, .inl (T 0, 3, .inl hc_)), (e4, .inl (T 0, 3, .inl hd_)), (e5, .inl (T 0, 3, .inl ee)), (e6, .inl (T 0, 24, .inl ef)), (a0, .inr (5, [.int (nI an), .int am, .int al, .int ao, .int au, .ref a1, .ref a2, .ref a3, .ref a4, .ref a5, .ref a6, .ref a7, .ref a8, .ref a9, .ref a10])), (a4, .inl (T 0, 10, .inl af4)), (a5, .inl (T 0, 10, .inl af5)), (a6, .inl (T 0, 10, .inl af6))] H locs := V _ [0, 2, 0, 2] rfl rfl rfl (by decide +kernel) rfl
  show W p l e _ s m args below meth c H locs _ _ _ (F0 m 6 ls [])
  have hun := f_1
  refine lv_iconst (v := (nI 0)) hx hb dX4_goOnFrom_6 (by decide +kernel) ?_
  refine lv_istore (lv' := [(4, .int (nI 0)), (0, .ref e0), (1, .ref a0), (2, .long v)]) hx hb dX4_goOnFrom_7 hl (by decide) rfl (fun ls hl => ?_)
  refine lv_iconst (v := (nI 0)) hx hb dX4_goOnFrom_9 (by decide +kernel) ?_
  refine lv_istore (lv' := [(5, .int (nI 0)), (4, .int (nI 0)), (0, .ref e0), (1, .ref a0), (2, .long v)]) hx hb dX4_goOnFrom_10 hl (by decide) rfl (fun ls hl => ?_)
  have L_2 : ∀ (fu : Nat) (k12 : Nat) (ab : Nat), k12 ≤ an → ab = abN (stF an fa st_) k12 → an - k12 < fu → ∀ (H : Heap) (locs : List Loc) (ls : Array Slot), gW D T A s [(e0, .inr (4, [.ref e1, .ref e2, .int (nI em), .ref e3, .ref e4, .ref e5, .ref e6])), (e1, .inl (T 1, 3001, .inr (.inl ea))), (e2, .inl (T 0, 8192, .inl eb)), (e3, .inl (T 0, 3, .inl hc_)), (e4, .inl (T 0, 3, .inl hd_)), (e5, .inl (T 0, 3, .inl ee)), (e6, .inl (T 0, 24, .inl ef)), (a0, .inr (5, [.int (nI an), .int am, .int al, .int ao, .int au, .ref a1, .ref a2, .ref a3, .ref a4, .ref a5, .ref a6, .ref a7, .ref a8, .ref a9, .ref a10])), (a4, .inl (T 0, 10, .inl af4)), (a5, .inl (T 0, 10, .inl af5)), (a6, .inl (T 0, 10, .inl af6))] H locs → lv_has ls 7 [(5, .int (nI k12)), (4, .int (nI ab)), (0, .ref e0), (1, .ref a0), (2, .long v)] → W p l e (rmD 2 0 0) s m args below meth c H locs 0 0 (MQ below (gQ D A (q_e_goOn_f T fa st_ V_ e0 a0 v e1 e2 em e3 e4 e5 e6 ea eb ec ed ee ef an am al ao au a1 a2 a3 a4 a5 a6 a7 a8 a9 a10 af4 af5 af6)) args s 0 0 A) (F0 m 12 ls []) := by
    intro fu_12
    induction fu_12 with
    | zero => intro k12 ab hk12 hab hmu; exact absurd hmu (Nat.not_lt_zero _)
    | succ fu_12 ih_12 =>
      intro k12 ab hk12 hab hmu_12 H locs ls V hl
      refine lv_iload hx hb dX4_goOnFrom_12 (lv_at hl 0 rfl) ?_
      refine lv_aload_n hx hb dX4_goOnFrom_14 rfl (lv_at hl 3 rfl) ?_
      refine g_get hC V (ci := 5) uwX5 7 rfl rfl 0 (by decide) w_34 rfl rfl dX4_goOnFrom_15 ?_
      refine lv_icmp_ge (tgt := 50) hx hb dX4_goOnFrom_18 (by decide) (fun c_3 => ?_) (fun c_3 => ?_)
      · skip
        have c_3 := b_le (by omega) (by omega) c_3
        have habn : ab = abN (stF an fa st_) an := by rw [hab]; congr 1; omega
        have hab8 : ab < 8 := by have := ab_lt (g := stF an fa st_) an; omega
        refine lv_iconst (v := (nI 0)) hx hb dX4_goOnFrom_50 (by decide +kernel) ?_
        refine lv_istore (lv' := [(5, .int (nI 0)), (4, .int (nI ab)), (0, .ref e0), (1, .ref a0), (2, .long v)]) hx hb dX4_goOnFrom_51 hl (by decide) rfl (fun ls hl => ?_)
        have L_4 : ∀ (fu : Nat) (k53 : Nat) (mt : Nat) (sa1 : Nat → Int64) (sb1 : Nat → Int32) (se1 : Nat → Int32), k53 ≤ 2 ^ an → HT (VS an) cC hsC (inA V_ (scP an fa st_ k53)) mt sa1 sb1 → 2 ^ an - k53 < fu → ∀ (H : Heap) (locs : List Loc) (ls : Array Slot), gW D T A s [(e0, .inr (4, [.ref e1, .ref e2, .int (nI mt), .ref e3, .ref e4, .ref e5, .ref e6])), (e1, .inl (T 1, 3001, .inr (.inl sa1))), (e2, .inl (T 0, 8192, .inl sb1)), (e3, .inl (T 0, 3, .inl hc_)), (e4, .inl (T 0, 3, .inl hd_)), (e5, .inl (T 0, 3, .inl se1)), (e6, .inl (T 0, 24, .inl ef)), (a0, .inr (5, [.int (nI an), .int am, .int al, .int ao, .int au, .ref a1, .ref a2, .ref a3, .ref a4, .ref a5, .ref a6, .ref a7, .ref a8, .ref a9, .ref a10])), (a4, .inl (T 0, 10, .inl af4)), (a5, .inl (T 0, 10, .inl af5)), (a6, .inl (T 0, 10, .inl af6))] H locs → lv_has ls 7 [(5, .int (nI k53)), (4, .int (nI ab)), (0, .ref e0), (1, .ref a0), (2, .long v)] → W p l e (rmD 2 0 0) s m args below meth c H locs 0 0 (MQ below (gQ D A (q_e_goOn_f T fa st_ V_ e0 a0 v e1 e2 em e3 e4 e5 e6 ea eb ec ed ee ef an am al ao au a1 a2 a3 a4 a5 a6 a7 a8 a9 a10 af4 af5 af6)) args s 0 0 A) (F0 m 53 ls []) := by
          intro fu_53
          induction fu_53 with
          | zero => intro k53 mt sa1 sb1 se1 hk53 hht hmu; exact absurd hmu (Nat.not_lt_zero _)
          | succ fu_53 ih_53 =>
            intro k53 mt sa1 sb1 se1 hk53 hht hmu_53 H locs ls V hl
            refine lv_iload hx hb dX4_goOnFrom_53 (lv_at hl 0 rfl) ?_
            refine lv_aload_n hx hb dX4_goOnFrom_55 rfl (lv_at hl 3 rfl) ?_
            refine g_callVU (nA := 0) hC V hl.1 (s_everyone l D T a0 an am al ao au a1 a2 a3 a4 a5 a6 a7 a8 a9 a10 (by first | assumption | omega)) w_744 w_463 w_464 w_3 w_465 (by decide +kernel) rfl ⟨(Nat.le_of_ble_eq_true rfl), (Nat.le_of_ble_eq_true rfl)⟩ 7 (ci := 5) rfl rfl [7] rfl rfl (Nat.le_of_ble_eq_true rfl) dX4_goOnFrom_56 ⟨(Nat.le_of_ble_eq_true rfl), (Nat.le_of_ble_eq_true rfl)⟩ rfl (fun r w1 H locs hQ V => ?_)
            obtain ⟨rfl, rfl⟩ := hQ
            have V : gW D T A s [(e0, .inr (4, [.ref e1, .ref e2, .int (nI mt), .ref e3, .ref e4, .ref e5, .ref e6])), (e1, .inl (T 1, 3001, .inr (.inl sa1))), (e2, .inl (T 0, 8192, .inl sb1)), (e3, .inl (T 0, 3, .inl hc_)), (e4, .inl (T 0, 3, .inl hd_)), (e5, .inl (T 0, 3, .inl se1)), (e6, .inl (T 0, 24, .inl ef)), (a0, .inr (5, [.int (nI an), .int am, .int al, .int ao, .int au, .ref a1, .ref a2, .ref a3, .ref a4, .ref a5, .ref a6, .ref a7, .ref a8, .ref a9, .ref a10])), (a4, .inl (T 0, 10, .inl af4)), (a5, .inl (T 0, 10, .inl af5)), (a6, .inl (T 0, 10, .inl af6))] H locs := V _ [7] rfl rfl rfl (by decide +kernel) rfl
            show W p l e _ s m args below meth c H locs _ _ _ (F0 m 59 ls [.int (nI (2 ^ an - 1)), .int (nI k53)])
            refine lv_icmp_gt (tgt := 161) hx hb dX4_goOnFrom_59 (by decide) (fun c_5 => ?_) (fun c_5 => ?_)
            · skip
              have c_5 := b_lt (by omega) (by omega) c_5
              exact g_vret (Qr := (q_e_goOn_f T fa st_ V_ e0 a0 v e1 e2 em e3 e4 e5 e6 ea eb ec ed ee ef an am al ao au a1 a2 a3 a4 a5 a6 a7 a8 a9 a10 af4 af5 af6)) hC V ⟨(Nat.le_of_ble_eq_true rfl), (Nat.le_of_ble_eq_true rfl)⟩ ⟨mt, sa1, sb1, hc_, hd_, se1, rfl, rfl, (by have q := hht; rw [show k53 = 2 ^ an by omega] at q; exact q)⟩ dX4_goOnFrom_161
            · skip
              have c_5 := b_nlt (by omega) (by omega) c_5
              refine lv_iconst (v := (nI 0)) hx hb dX4_goOnFrom_62 (by decide +kernel) ?_
              refine lv_istore (lv' := [(6, .int (nI 0)), (5, .int (nI k53)), (4, .int (nI ab)), (0, .ref e0), (1, .ref a0), (2, .long v)]) hx hb dX4_goOnFrom_63 hl (by decide) rfl (fun ls hl => ?_)
              have L_6 : ∀ (fu : Nat) (k65 : Nat) (se2 : Nat → Int32), k65 ≤ an → (∀ i, i < k65 → se2 i = hNw an (stF an fa st_) (nI k53) (-1) (nI 0) i) → an - k65 < fu → ∀ (H : Heap) (locs : List Loc) (ls : Array Slot), gW D T A s [(e0, .inr (4, [.ref e1, .ref e2, .int (nI mt), .ref e3, .ref e4, .ref e5, .ref e6])), (e1, .inl (T 1, 3001, .inr (.inl sa1))), (e2, .inl (T 0, 8192, .inl sb1)), (e3, .inl (T 0, 3, .inl hc_)), (e4, .inl (T 0, 3, .inl hd_)), (e5, .inl (T 0, 3, .inl se2)), (e6, .inl (T 0, 24, .inl ef)), (a0, .inr (5, [.int (nI an), .int am, .int al, .int ao, .int au, .ref a1, .ref a2, .ref a3, .ref a4, .ref a5, .ref a6, .ref a7, .ref a8, .ref a9, .ref a10])), (a4, .inl (T 0, 10, .inl af4)), (a5, .inl (T 0, 10, .inl af5)), (a6, .inl (T 0, 10, .inl af6))] H locs → lv_has ls 7 [(6, .int (nI k65)), (5, .int (nI k53)), (4, .int (nI ab)), (0, .ref e0), (1, .ref a0), (2, .long v)] → W p l e (rmD 2 0 0) s m args below meth c H locs 0 0 (MQ below (gQ D A (q_e_goOn_f T fa st_ V_ e0 a0 v e1 e2 em e3 e4 e5 e6 ea eb ec ed ee ef an am al ao au a1 a2 a3 a4 a5 a6 a7 a8 a9 a10 af4 af5 af6)) args s 0 0 A) (F0 m 65 ls []) := by
                intro fu_65
                induction fu_65 with
                | zero => intro k65 se2 hk65 hE hmu; exact absurd hmu (Nat.not_lt_zero _)
                | succ fu_65 ih_65 =>
                  intro k65 se2 hk65 hE hmu_65 H locs ls V hl
                  refine lv_iload hx hb dX4_goOnFrom_65 (lv_at hl 0 rfl) ?_
                  refine lv_aload_n hx hb dX4_goOnFrom_67 rfl (lv_at hl 4 rfl) ?_
                  refine g_get hC V (ci := 5) uwX5 7 rfl rfl 0 (by decide) w_34 rfl rfl dX4_goOnFrom_68 ?_
                  refine lv_icmp_ge (tgt := 110) hx hb dX4_goOnFrom_71 (by decide) (fun c_7 => ?_) (fun c_7 => ?_)
                  · skip
                    have c_7 := b_le (by omega) (by omega) c_7
                    have hE2 : ∀ i, i < an → se2 i = hNw an (stF an fa st_) (nI k53) (-1) (nI 0) i := fun i hi => hE i (by omega)
                    refine lv_iconst (v := (nI 0)) hx hb dX4_goOnFrom_110 (by decide +kernel) ?_
                    refine lv_istore (lv' := [(6, .int (nI 0)), (5, .int (nI k53)), (4, .int (nI ab)), (0, .ref e0), (1, .ref a0), (2, .long v)]) hx hb dX4_goOnFrom_111 hl (by decide) rfl (fun ls hl => ?_)
                    have L_8 : ∀ (fu : Nat) (k113 : Nat) (mu : Nat) (sa3 : Nat → Int64) (sb3 : Nat → Int32), k113 ≤ ab + 1 → HT (VS an) cC hsC (inA V_ ((scP an fa st_ k53) ++ scS an fa st_ k53 k113)) mu sa3 sb3 → ab + 1 - k113 < fu → ∀ (H : Heap) (locs : List Loc) (ls : Array Slot), gW D T A s [(e0, .inr (4, [.ref e1, .ref e2, .int (nI mu), .ref e3, .ref e4, .ref e5, .ref e6])), (e1, .inl (T 1, 3001, .inr (.inl sa3))), (e2, .inl (T 0, 8192, .inl sb3)), (e3, .inl (T 0, 3, .inl hc_)), (e4, .inl (T 0, 3, .inl hd_)), (e5, .inl (T 0, 3, .inl se2)), (e6, .inl (T 0, 24, .inl ef)), (a0, .inr (5, [.int (nI an), .int am, .int al, .int ao, .int au, .ref a1, .ref a2, .ref a3, .ref a4, .ref a5, .ref a6, .ref a7, .ref a8, .ref a9, .ref a10])), (a4, .inl (T 0, 10, .inl af4)), (a5, .inl (T 0, 10, .inl af5)), (a6, .inl (T 0, 10, .inl af6))] H locs → lv_has ls 7 [(6, .int (nI k113)), (5, .int (nI k53)), (4, .int (nI ab)), (0, .ref e0), (1, .ref a0), (2, .long v)] → W p l e (rmD 2 0 0) s m args below meth c H locs 0 0 (MQ below (gQ D A (q_e_goOn_f T fa st_ V_ e0 a0 v e1 e2 em e3 e4 e5 e6 ea eb ec ed ee ef an am al ao au a1 a2 a3 a4 a5 a6 a7 a8 a9 a10 af4 af5 af6)) args s 0 0 A) (F0 m 113 ls []) := by
                      intro fu_113
                      induction fu_113 with
                      | zero => intro k113 mu sa3 sb3 hk113 hhu hmu; exact absurd hmu (Nat.not_lt_zero _)
                      | succ fu_113 ih_113 =>
                        intro k113 mu sa3 sb3 hk113 hhu hmu_113 H locs ls V hl
                        refine lv_iload hx hb dX4_goOnFrom_113 (lv_at hl 0 rfl) ?_
                        refine lv_iload hx hb dX4_goOnFrom_115 (lv_at hl 2 rfl) ?_
                        refine lv_icmp_gt (tgt := 155) hx hb dX4_goOnFrom_117 (by decide) (fun c_9 => ?_) (fun c_9 => ?_)
                        · skip
                          have c_9 := b_lt (by omega) (by omega) c_9
                          refine lv_iinc (v := (nI (k53 + 1))) (lv' := [(5, .int (nI (k53 + 1))), (6, .int (nI k113)), (4, .int (nI ab)), (0, .ref e0), (1, .ref a0), (2, .long v)]) hx hb dX4_goOnFrom_155 hl (k := 1) rfl (nI_1 _) (by decide) rfl (fun ls hl => ?_)
                          refine lv_goto (tgt := 53) hx hb dX4_goOnFrom_158 (by decide) ?_
                          exact ih_53 (k53 + 1) mu sa3 sb3 se2 (by omega) (hh_p habn (by omega) hhu) (by omega) _ _ _ V (lv_sub hl [0, 2, 3, 4, 5] rfl)
                        · skip
                          have c_9 := b_nlt (by omega) (by omega) c_9
                          refine lv_iload hx hb dX4_goOnFrom_120 (lv_at hl 0 rfl) ?_
                          refine lv_iload hx hb dX4_goOnFrom_122 (lv_at hl 2 rfl) ?_
                          refine lv_iconst (v := (-1)) hx hb dX4_goOnFrom_124 (by decide +kernel) ?_
                          refine lv_ixor hx hb dX4_goOnFrom_125 ?_
                          refine lv_iand hx hb dX4_goOnFrom_126 ?_
                          refine lv_if_ne (tgt := 149) hx hb dX4_goOnFrom_127 (by decide) (fun c_10 => ?_) (fun c_10 => ?_)
                          · skip
                            refine lv_iinc (v := (nI (k113 + 1))) (lv' := [(6, .int (nI (k113 + 1))), (5, .int (nI k53)), (4, .int (nI ab)), (0, .ref e0), (1, .ref a0), (2, .long v)]) hx hb dX4_goOnFrom_149 hl (k := 0) rfl (nI_1 _) (by decide) rfl (fun ls hl => ?_)
                            refine lv_goto (tgt := 113) hx hb dX4_goOnFrom_152 (by decide) ?_
                            exact ih_113 (k113 + 1) mu sa3 sb3 (by omega) (hh_n habn (fun q => c_10 ((ok_i (by omega) (by omega) (by omega)).mpr q).1) hhu) (by omega) _ _ _ V (lv_sub hl [0, 1, 2, 3, 4, 5] rfl)
                          · skip
                            refine lv_iload hx hb dX4_goOnFrom_130 (lv_at hl 0 rfl) ?_
                            refine lv_iload hx hb dX4_goOnFrom_132 (lv_at hl 1 rfl) ?_
                            refine lv_iand hx hb dX4_goOnFrom_134 ?_
                            refine lv_if_ne (tgt := 149) hx hb dX4_goOnFrom_135 (by decide) (fun c_11 => ?_) (fun c_11 => ?_)
                            · skip
                              refine lv_iinc (v := (nI (k113 + 1))) (lv' := [(6, .int (nI (k113 + 1))), (5, .int (nI k53)), (4, .int (nI ab)), (0, .ref e0), (1, .ref a0), (2, .long v)]) hx hb dX4_goOnFrom_149 hl (k := 0) rfl (nI_1 _) (by decide) rfl (fun ls hl => ?_)
                              refine lv_goto (tgt := 113) hx hb dX4_goOnFrom_152 (by decide) ?_
                              exact ih_113 (k113 + 1) mu sa3 sb3 (by omega) (hh_n habn (fun q => c_11 ((ok_i (by omega) (by omega) (by omega)).mpr q).2) hhu) (by omega) _ _ _ V (lv_sub hl [0, 1, 2, 3, 4, 5] rfl)
                            · skip
                              have hok : okB ab k53 k113 = true := (ok_i (by omega) (by omega) (by omega)).mp ⟨c_10, c_11⟩
                              refine lv_aload_n hx hb dX4_goOnFrom_138 rfl (lv_at hl 3 rfl) ?_
                              refine lv_aload_n hx hb dX4_goOnFrom_139 rfl (lv_at hl 3 rfl) ?_
                              refine lv_aload_n hx hb dX4_goOnFrom_140 rfl (lv_at hl 4 rfl) ?_
                              refine lv_iload hx hb dX4_goOnFrom_141 (lv_at hl 0 rfl) ?_
                              refine g_callVU (nA := 2) hC V hl.1 (e_behind_f l D T fa st_ k53 hc_ e0 a0 k113 e1 e2 mu e3 e4 e5 e6 hd_ se2 an am al ao au a1 a2 a3 a4 a5 a6 a7 a8 a9 a10 af5 af6 (by first | assumption | omega) h_a h_vs hun hE2 (ok_sub h_n habn (by omega) hok) h_o (by first | assumption | omega) (by first | assumption | omega)) w_777 w_779 w_s30 w_18 w_780 (by decide +kernel) rfl ⟨(Nat.le_of_ble_eq_true rfl), (Nat.le_of_ble_eq_true rfl)⟩ 0 (ci := 4) rfl rfl [0, 4, 5, 7, 9, 10] rfl rfl (Nat.le_of_ble_eq_true rfl) dX4_goOnFrom_143 ⟨(Nat.le_of_ble_eq_true rfl), (Nat.le_of_ble_eq_true rfl)⟩ rfl (fun r w1 H locs hQ V => ?_)
                              obtain ⟨z_12, rfl, rfl, f_13⟩ := hQ
                              have V : gW D T A s [(e0, .inr (4, [.ref e1, .ref e2, .int (nI mu), .ref e3, .ref e4, .ref e5, .ref e6])), (e1, .inl (T 1, 3001, .inr (.inl sa3))), (e2, .inl (T 0, 8192, .inl sb3)), (e3, .inl (T 0, 3, .inl hc_)), (e4, .inl (T 0, 3, .inl hd_)), (e5, .inl (T 0, 3, .inl se2)), (e6, .inl (T 0, 24, .inl ef)), (a0, .inr (5, [.int (nI an), .int am, .int al, .int ao, .int au, .ref a1, .ref a2, .ref a3, .ref a4, .ref a5, .ref a6, .ref a7, .ref a8, .ref a9, .ref a10])), (a4, .inl (T 0, 10, .inl af4)), (a5, .inl (T 0, 10, .inl af5)), (a6, .inl (T 0, 10, .inl af6))] H locs := V _ [0, 3, 0, 1, 1, 0] rfl rfl rfl (by decide +kernel) rfl
                              show W p l e _ s m args below meth c H locs _ _ _ (F0 m 146 ls [.long z_12, .ref e0])
                              refine g_callVU (nA := 1) hC V hl.1 (e_meet_f l D T an (inA V_ ((scP an fa st_ k53) ++ scS an fa st_ k53 k113)) (nx an fa st_ k53 k113) e0 z_12 e1 e2 mu e3 e4 e5 e6 sa3 sb3 hhu (nx_vs h_a h_vs) f_13 h_n) w_754 w_756 w_s25 w_18 w_757 (by decide +kernel) rfl ⟨(Nat.le_of_ble_eq_true rfl), (Nat.le_of_ble_eq_true rfl)⟩ 0 (ci := 4) rfl rfl [0, 1, 2] rfl rfl (Nat.le_of_ble_eq_true rfl) dX4_goOnFrom_146 ⟨(Nat.le_of_ble_eq_true rfl), (Nat.le_of_ble_eq_true rfl)⟩ rfl (fun r w1 H locs hQ V => ?_)
                              obtain ⟨em2_14, g1_15, g2_16, rfl, rfl, f_17⟩ := hQ
                              have V : gW D T A s [(e0, .inr (4, [.ref e1, .ref e2, .int (nI em2_14), .ref e3, .ref e4, .ref e5, .ref e6])), (e1, .inl (T 1, 3001, .inr (.inl g1_15))), (e2, .inl (T 0, 8192, .inl g2_16)), (e3, .inl (T 0, 3, .inl hc_)), (e4, .inl (T 0, 3, .inl hd_)), (e5, .inl (T 0, 3, .inl se2)), (e6, .inl (T 0, 24, .inl ef)), (a0, .inr (5, [.int (nI an), .int am, .int al, .int ao, .int au, .ref a1, .ref a2, .ref a3, .ref a4, .ref a5, .ref a6, .ref a7, .ref a8, .ref a9, .ref a10])), (a4, .inl (T 0, 10, .inl af4)), (a5, .inl (T 0, 10, .inl af5)), (a6, .inl (T 0, 10, .inl af6))] H locs := V _ [0, 0, 0] rfl rfl rfl (by decide +kernel) rfl
                              show W p l e _ s m args below meth c H locs _ _ _ (F0 m 149 ls [])
                              refine lv_iinc (v := (nI (k113 + 1))) (lv' := [(6, .int (nI (k113 + 1))), (5, .int (nI k53)), (4, .int (nI ab)), (0, .ref e0), (1, .ref a0), (2, .long v)]) hx hb dX4_goOnFrom_149 hl (k := 0) rfl (nI_1 _) (by decide) rfl (fun ls hl => ?_)
                              refine lv_goto (tgt := 113) hx hb dX4_goOnFrom_152 (by decide) ?_
                              exact ih_113 (k113 + 1) em2_14 g1_15 g2_16 (by omega) (hh_y habn hok f_17) (by omega) _ _ _ V (lv_sub hl [0, 1, 2, 3, 4, 5] rfl)
                    exact L_8 _ 0 mt sa1 sb1 (by omega) (hh_0 hht) (Nat.lt_succ_self _) _ _ _ V (lv_sub hl [0, 1, 2, 3, 4, 5] rfl)
                  · skip
                    have c_7 := b_nle (by omega) (by omega) c_7
                    refine lv_aload_n hx hb dX4_goOnFrom_74 rfl (lv_at hl 3 rfl) ?_
                    refine g_get hC V (ci := 4) uwX4 0 rfl rfl 5 (by decide) w_718 rfl rfl dX4_goOnFrom_75 ?_
                    refine lv_iload hx hb dX4_goOnFrom_78 (lv_at hl 0 rfl) ?_
                    refine lv_aload_n hx hb dX4_goOnFrom_80 rfl (lv_at hl 3 rfl) ?_
                    refine g_get hC V (ci := 4) uwX4 0 rfl rfl 3 (by decide) w_716 rfl rfl dX4_goOnFrom_81 ?_
                    refine lv_iload hx hb dX4_goOnFrom_84 (lv_at hl 0 rfl) ?_
                    refine g_iald hC V 3 rfl (vp_in_nI (by omega) (by omega)) (v := (hc_ k65)) (congrArg _ (nI_clamp (by omega))) dX4_goOnFrom_86 ?_
                    refine lv_aload_n hx hb dX4_goOnFrom_87 rfl (lv_at hl 3 rfl) ?_
                    refine g_get hC V (ci := 4) uwX4 0 rfl rfl 6 (by decide) w_719 rfl rfl dX4_goOnFrom_88 ?_
                    refine lv_iconst (v := (nI 3)) hx hb dX4_goOnFrom_91 (by decide +kernel) ?_
                    refine lv_iload hx hb dX4_goOnFrom_92 (lv_at hl 1 rfl) ?_
                    refine lv_imul hx hb dX4_goOnFrom_94 ?_
                    refine g_vi (y := (nI (3 * k53))) (pk_mul _ _) ?_
                    refine lv_iload hx hb dX4_goOnFrom_95 (lv_at hl 0 rfl) ?_
                    refine lv_iadd hx hb dX4_goOnFrom_97 ?_
                    refine g_vi (y := (nI ((3 * k53) + k65))) (nI_add _ _) ?_
                    refine g_iald hC V 6 rfl (vp_in_nI (by omega) (by omega)) (v := (ef ((3 * k53) + k65))) (congrArg _ (nI_clamp (by omega))) dX4_goOnFrom_98 ?_
                    refine lv_iadd hx hb dX4_goOnFrom_99 ?_
                    refine g_callSNU (nA := 1) (host := RX7) hC V hl.1 (c_bounded_f l D T ((hc_ k65) + (ef ((3 * k53) + k65)))) w_489 (List.mem_of_getElem? (i := 11) rfl) w_2 w_488 (by decide +kernel) rfl ⟨(Nat.le_of_ble_eq_true rfl), (Nat.le_of_ble_eq_true rfl)⟩ [] rfl rfl (Nat.le_of_ble_eq_true rfl) dX4_goOnFrom_100 ⟨(Nat.le_of_ble_eq_true rfl), (Nat.le_of_ble_eq_true rfl)⟩ rfl (fun r w1 H locs hQ V => ?_)
                    obtain ⟨z_18, rfl, rfl, f_19⟩ := hQ
                    have V : gW D T A s [(e0, .inr (4, [.ref e1, .ref e2, .int (nI mt), .ref e3, .ref e4, .ref e5, .ref e6])), (e1, .inl (T 1, 3001, .inr (.inl sa1))), (e2, .inl (T 0, 8192, .inl sb1)), (e3, .inl (T 0, 3, .inl hc_)), (e4, .inl (T 0, 3, .inl hd_)), (e5, .inl (T 0, 3, .inl se2)), (e6, .inl (T 0, 24, .inl ef)), (a0, .inr (5, [.int (nI an), .int am, .int al, .int ao, .int au, .ref a1, .ref a2, .ref a3, .ref a4, .ref a5, .ref a6, .ref a7, .ref a8, .ref a9, .ref a10])), (a4, .inl (T 0, 10, .inl af4)), (a5, .inl (T 0, 10, .inl af5)), (a6, .inl (T 0, 10, .inl af6))] H locs := V _ [] rfl rfl rfl (by decide +kernel) rfl
                    show W p l e _ s m args below meth c H locs _ _ _ (F0 m 103 ls [.int z_18, .int (nI k65), .ref e5])
                    have hz100 := gh_eq (by omega) (by omega) hun h_ch (show k53 < 2 ^ an by omega) f_19
                    refine g_iast hC V 5 rfl (vp_in_nI (by omega) (by omega)) (f' := (upd se2 k65 z_18)) (by rw [nI_clamp (by omega)]) (ws' := [(e0, .inr (4, [.ref e1, .ref e2, .int (nI mt), .ref e3, .ref e4, .ref e5, .ref e6])), (e1, .inl (T 1, 3001, .inr (.inl sa1))), (e2, .inl (T 0, 8192, .inl sb1)), (e3, .inl (T 0, 3, .inl hc_)), (e4, .inl (T 0, 3, .inl hd_)), (e5, .inl (T 0, 3, .inl (upd se2 k65 z_18))), (e6, .inl (T 0, 24, .inl ef)), (a0, .inr (5, [.int (nI an), .int am, .int al, .int ao, .int au, .ref a1, .ref a2, .ref a3, .ref a4, .ref a5, .ref a6, .ref a7, .ref a8, .ref a9, .ref a10])), (a4, .inl (T 0, 10, .inl af4)), (a5, .inl (T 0, 10, .inl af5)), (a6, .inl (T 0, 10, .inl af6))]) rfl dX4_goOnFrom_103 (fun H locs V => ?_)
                    refine lv_iinc (v := (nI (k65 + 1))) (lv' := [(6, .int (nI (k65 + 1))), (5, .int (nI k53)), (4, .int (nI ab)), (0, .ref e0), (1, .ref a0), (2, .long v)]) hx hb dX4_goOnFrom_104 hl (k := 0) rfl (nI_1 _) (by decide) rfl (fun ls hl => ?_)
                    refine lv_goto (tgt := 65) hx hb dX4_goOnFrom_107 (by decide) ?_
                    exact ih_65 (k65 + 1) (upd se2 k65 z_18) (by omega) (up_one (p := fun i x => x = hNw an (stF an fa st_) (nI k53) (-1) (nI 0) i) hE hz100) (by omega) _ _ _ V (lv_sub hl [0, 1, 2, 3, 4, 5] rfl)
              exact L_6 _ 0 se1 (by omega) (fun i h => absurd h (Nat.not_lt_zero _)) (Nat.lt_succ_self _) _ _ _ V (lv_sub hl [0, 1, 2, 3, 4, 5] rfl)
        exact L_4 _ 0 em ea eb ee (by omega) h_ht (Nat.lt_succ_self _) _ _ _ V (lv_sub hl [0, 1, 2, 3, 4] rfl)
      · skip
        have c_3 := b_nle (by omega) (by omega) c_3
        refine lv_iload hx hb dX4_goOnFrom_21 (lv_at hl 1 rfl) ?_
        refine lv_aload_n hx hb dX4_goOnFrom_23 rfl (lv_at hl 2 rfl) ?_
        refine lv_aload_n hx hb dX4_goOnFrom_24 rfl (lv_at hl 3 rfl) ?_
        refine lv_iload hx hb dX4_goOnFrom_25 (lv_at hl 0 rfl) ?_
        refine g_callVU (nA := 2) hC V hl.1 (e_canStrike_f l D T fa st_ e0 a0 k12 e1 e2 em e3 e4 e5 e6 hc_ hd_ an am al ao au a1 a2 a3 a4 a5 a6 a7 a8 a9 a10 af4 af5 af6 (by omega) (by first | assumption | omega) hun (by first | assumption | omega) (by first | assumption | omega) (by first | assumption | omega)) w_767 w_769 w_s28 w_18 w_770 (by decide +kernel) rfl ⟨(Nat.le_of_ble_eq_true rfl), (Nat.le_of_ble_eq_true rfl)⟩ 0 (ci := 4) rfl rfl [0, 3, 4, 7, 8, 9, 10] rfl rfl (Nat.le_of_ble_eq_true rfl) dX4_goOnFrom_27 ⟨(Nat.le_of_ble_eq_true rfl), (Nat.le_of_ble_eq_true rfl)⟩ rfl (fun r w1 H locs hQ V => ?_)
        rcases hQ with ⟨rfl, rfl, f_20⟩ | ⟨rfl, rfl, f_21⟩
        · have V : gW D T A s [(e0, .inr (4, [.ref e1, .ref e2, .int (nI em), .ref e3, .ref e4, .ref e5, .ref e6])), (e1, .inl (T 1, 3001, .inr (.inl ea))), (e2, .inl (T 0, 8192, .inl eb)), (e3, .inl (T 0, 3, .inl hc_)), (e4, .inl (T 0, 3, .inl hd_)), (e5, .inl (T 0, 3, .inl ee)), (e6, .inl (T 0, 24, .inl ef)), (a0, .inr (5, [.int (nI an), .int am, .int al, .int ao, .int au, .ref a1, .ref a2, .ref a3, .ref a4, .ref a5, .ref a6, .ref a7, .ref a8, .ref a9, .ref a10])), (a4, .inl (T 0, 10, .inl af4)), (a5, .inl (T 0, 10, .inl af5)), (a6, .inl (T 0, 10, .inl af6))] H locs := V _ [0, 2, 0, 2, 0, 0, 0] rfl rfl rfl (by decide +kernel) rfl
          show W p l e _ s m args below meth c H locs _ _ _ (F0 m 30 ls [.int (nI 1), .int (nI ab)])
          refine lv_if_eq (tgt := 40) hx hb dX4_goOnFrom_30 (by decide) (fun c => absurd (show (nI 1) = 0 from c) (by decide +kernel)) (fun _ => ?_)
          refine lv_iconst (v := (nI 1)) hx hb dX4_goOnFrom_33 (by decide +kernel) ?_
          refine lv_iload hx hb dX4_goOnFrom_34 (lv_at hl 0 rfl) ?_
          refine lv_ishl hx hb dX4_goOnFrom_36 ?_
          refine g_vi (y := (nI (2 ^ k12))) (shl_pow (by omega)) ?_
          refine lv_goto (tgt := 41) hx hb dX4_goOnFrom_37 (by decide) ?_
          refine lv_ior hx hb dX4_goOnFrom_41 ?_
          refine g_vi (y := nI (ab + 2 ^ k12)) (or_8 (by omega) (by rw [hab]; exact ab_lt _)) ?_
          refine lv_istore (lv' := [(4, .int (nI (ab + 2 ^ k12))), (5, .int (nI k12)), (0, .ref e0), (1, .ref a0), (2, .long v)]) hx hb dX4_goOnFrom_42 hl (by decide) rfl (fun ls hl => ?_)
          refine lv_iinc (v := (nI (k12 + 1))) (lv' := [(5, .int (nI (k12 + 1))), (4, .int (nI (ab + 2 ^ k12))), (0, .ref e0), (1, .ref a0), (2, .long v)]) hx hb dX4_goOnFrom_44 hl (k := 1) rfl (nI_1 _) (by decide) rfl (fun ls hl => ?_)
          refine lv_goto (tgt := 12) hx hb dX4_goOnFrom_47 (by decide) ?_
          exact ih_12 (k12 + 1) (ab + 2 ^ k12) (by omega) (by rw [hab]; exact ab_1 f_20) (by omega) _ _ _ V (lv_sub hl [0, 1, 2, 3, 4] rfl)
        · have V : gW D T A s [(e0, .inr (4, [.ref e1, .ref e2, .int (nI em), .ref e3, .ref e4, .ref e5, .ref e6])), (e1, .inl (T 1, 3001, .inr (.inl ea))), (e2, .inl (T 0, 8192, .inl eb)), (e3, .inl (T 0, 3, .inl hc_)), (e4, .inl (T 0, 3, .inl hd_)), (e5, .inl (T 0, 3, .inl ee)), (e6, .inl (T 0, 24, .inl ef)), (a0, .inr (5, [.int (nI an), .int am, .int al, .int ao, .int au, .ref a1, .ref a2, .ref a3, .ref a4, .ref a5, .ref a6, .ref a7, .ref a8, .ref a9, .ref a10])), (a4, .inl (T 0, 10, .inl af4)), (a5, .inl (T 0, 10, .inl af5)), (a6, .inl (T 0, 10, .inl af6))] H locs := V _ [0, 2, 0, 2, 0, 0, 0] rfl rfl rfl (by decide +kernel) rfl
          show W p l e _ s m args below meth c H locs _ _ _ (F0 m 30 ls [.int (nI 0), .int (nI ab)])
          refine lv_if_eq (tgt := 40) hx hb dX4_goOnFrom_30 (by decide) (fun _ => ?_) (fun c => absurd (show (nI 0) = 0 by decide +kernel) c)
          refine lv_iconst (v := (nI 0)) hx hb dX4_goOnFrom_40 (by decide +kernel) ?_
          refine lv_ior hx hb dX4_goOnFrom_41 ?_
          refine g_vi (y := nI ab) (or_80 _) ?_
          refine lv_istore (lv' := [(4, .int (nI ab)), (5, .int (nI k12)), (0, .ref e0), (1, .ref a0), (2, .long v)]) hx hb dX4_goOnFrom_42 hl (by decide) rfl (fun ls hl => ?_)
          refine lv_iinc (v := (nI (k12 + 1))) (lv' := [(5, .int (nI (k12 + 1))), (4, .int (nI ab)), (0, .ref e0), (1, .ref a0), (2, .long v)]) hx hb dX4_goOnFrom_44 hl (k := 1) rfl (nI_1 _) (by decide) rfl (fun ls hl => ?_)
          refine lv_goto (tgt := 12) hx hb dX4_goOnFrom_47 (by decide) ?_
          exact ih_12 (k12 + 1) ab (by omega) (by rw [hab]; exact ab_0 f_21) (by omega) _ _ _ V (lv_sub hl [0, 1, 2, 3, 4] rfl)
  exact L_2 _ 0 0 (by omega) rfl (Nat.lt_succ_self _) _ _ _ V (lv_sub hl [0, 1, 2, 3, 4] rfl)
