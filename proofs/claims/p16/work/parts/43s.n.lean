def q_s_burn_f (T : Nat → ClassId) (a0 : Nat) (j : Nat) (an : Nat) (am : Int32) (al : Int32) (ao : Int32) (au : Int32) (a1 : Nat) (a2 : Nat) (a3 : Nat) (a4 : Nat) (a5 : Nat) (a6 : Nat) (a7 : Nat) (a8 : Nat) (a9 : Nat) (a10 : Nat) (af3 : Nat → Int32) (af5 : Nat → Int32) (af6 : Nat → Int32) (af7 : Nat → Int32) (af8 : Nat → Int32) : Option Value → va_W → Prop := fun rr ww => (∃ (u : Int32) (g7 : Nat → Int32) (g8 : Nat → Int32), rr = none ∧ ww = [(a0, .inr (5, [.int (nI an), .int am, .int al, .int ao, .int u, .ref a1, .ref a2, .ref a3, .ref a4, .ref a5, .ref a6, .ref a7, .ref a8, .ref a9, .ref a10])), (a3, .inl (T 0, 10, .inl af3)), (a5, .inl (T 0, 10, .inl af5)), (a6, .inl (T 0, 10, .inl af6)), (a7, .inl (T 0, 10, .inl g7)), (a8, .inl (T 0, 10, .inl g8))] ∧ (af7 j < af6 j ∧ ¬ af7 j ≤ 0 ∧ af5 j < af3 j) ∧ g7 = upd af7 j (mx0 (af7 j - ao)) ∧ u = au + nI 1) ∨ (rr = none ∧ ww = [(a0, .inr (5, [.int (nI an), .int am, .int al, .int ao, .int au, .ref a1, .ref a2, .ref a3, .ref a4, .ref a5, .ref a6, .ref a7, .ref a8, .ref a9, .ref a10])), (a3, .inl (T 0, 10, .inl af3)), (a5, .inl (T 0, 10, .inl af5)), (a6, .inl (T 0, 10, .inl af6)), (a7, .inl (T 0, 10, .inl af7)), (a8, .inl (T 0, 10, .inl af8))] ∧ (¬ (af7 j < af6 j ∧ ¬ af7 j ≤ 0 ∧ af5 j < af3 j)))
set_option maxHeartbeats 4000000 in
set_option maxRecDepth 100000 in
theorem s_burn_f (l : Launch) (D : va_G) (T : Nat → ClassId) (a0 : Nat) (j : Nat) (an : Nat) (am : Int32) (al : Int32) (ao : Int32) (au : Int32) (a1 : Nat) (a2 : Nat) (a3 : Nat) (a4 : Nat) (a5 : Nat) (a6 : Nat) (a7 : Nat) (a8 : Nat) (a9 : Nat) (a10 : Nat) (af3 : Nat → Int32) (af5 : Nat → Int32) (af6 : Nat → Int32) (af7 : Nat → Int32) (af8 : Nat → Int32) (h_j : j < 10) : Ct l yX5_burn cX5_burn 2 none 1 0 0 D T [.ref a0, .int (nI j)] [(a0, .inr (5, [.int (nI an), .int am, .int al, .int ao, .int au, .ref a1, .ref a2, .ref a3, .ref a4, .ref a5, .ref a6, .ref a7, .ref a8, .ref a9, .ref a10])), (a3, .inl (T 0, 10, .inl af3)), (a5, .inl (T 0, 10, .inl af5)), (a6, .inl (T 0, 10, .inl af6)), (a7, .inl (T 0, 10, .inl af7)), (a8, .inl (T 0, 10, .inl af8))] (q_s_burn_f T a0 j an am al ao au a1 a2 a3 a4 a5 a6 a7 a8 a9 a10 af3 af5 af6 af7 af8) := by
  refine Ct.of (cc := cX5_burn) (maxL := 2) (ret := none) (by decide) (Nat.le_of_ble_eq_true rfl) ?_
  intro p e s m args below meth c A ls hC hnm V hl
  obtain ⟨hx, hb, hr, hml, hown, hts, hlocks⟩ := id hC
  generalize hH : s.heap = H at V ⊢
  clear hH
  have hl : lv_has ls 2 [(0, .ref a0), (1, .int (nI j))] := hl
  generalize hlo : ([] : List Loc) = locs at V ⊢
  clear hlo
  refine lv_aload_n hx hb dX5_burn_0 rfl (lv_at hl 0 rfl) ?_
  refine lv_iload_n hx hb dX5_burn_1 rfl (lv_at hl 1 rfl) ?_
  refine g_callVU (nA := 1) hC V hl.1 (s_isDone l D T a0 j an am al ao au a1 a2 a3 a4 a5 a6 a7 a8 a9 a10 af6 af7 (by first | assumption | omega)) w_477 w_430 w_431 w_3 w_432 (by decide +kernel) rfl ⟨(Nat.le_of_ble_eq_true rfl), (Nat.le_of_ble_eq_true rfl)⟩ 0 (ci := 5) rfl rfl [0, 3, 4] rfl rfl (Nat.le_of_ble_eq_true rfl) dX5_burn_2 ⟨(Nat.le_of_ble_eq_true rfl), (Nat.le_of_ble_eq_true rfl)⟩ rfl (fun r w1 H locs hQ V => ?_)
  rcases hQ with ⟨rfl, rfl, f_1⟩ | ⟨rfl, rfl, f_2⟩
  · have V : gW D T A s [(a0, .inr (5, [.int (nI an), .int am, .int al, .int ao, .int au, .ref a1, .ref a2, .ref a3, .ref a4, .ref a5, .ref a6, .ref a7, .ref a8, .ref a9, .ref a10])), (a3, .inl (T 0, 10, .inl af3)), (a5, .inl (T 0, 10, .inl af5)), (a6, .inl (T 0, 10, .inl af6)), (a7, .inl (T 0, 10, .inl af7)), (a8, .inl (T 0, 10, .inl af8))] H locs := V _ [0, 2, 0] rfl rfl rfl (by decide +kernel) rfl
    show W p l e _ s m args below meth c H locs _ _ _ (F0 m 5 ls [.int (nI 1)])
    refine lv_if_ne (tgt := 73) hx hb dX5_burn_5 (by decide) (fun _ => ?_) (fun c => absurd (show (nI 1) = 0 from c) (by decide +kernel))
    exact g_vret (Qr := (q_s_burn_f T a0 j an am al ao au a1 a2 a3 a4 a5 a6 a7 a8 a9 a10 af3 af5 af6 af7 af8)) hC V ⟨(Nat.le_of_ble_eq_true rfl), (Nat.le_of_ble_eq_true rfl)⟩ (.inr ⟨rfl, rfl, (by first | exact fun q => absurd q.1 (by assumption) | exact fun q => q.2.1 (by assumption) | exact fun q => absurd q.2.2 (Int32.not_lt.mpr (by assumption)))⟩) dX5_burn_73
  · have V : gW D T A s [(a0, .inr (5, [.int (nI an), .int am, .int al, .int ao, .int au, .ref a1, .ref a2, .ref a3, .ref a4, .ref a5, .ref a6, .ref a7, .ref a8, .ref a9, .ref a10])), (a3, .inl (T 0, 10, .inl af3)), (a5, .inl (T 0, 10, .inl af5)), (a6, .inl (T 0, 10, .inl af6)), (a7, .inl (T 0, 10, .inl af7)), (a8, .inl (T 0, 10, .inl af8))] H locs := V _ [0, 2, 0] rfl rfl rfl (by decide +kernel) rfl
    show W p l e _ s m args below meth c H locs _ _ _ (F0 m 5 ls [.int (nI 0)])
    refine lv_if_ne (tgt := 73) hx hb dX5_burn_5 (by decide) (fun c => absurd (show (nI 0) = 0 by decide +kernel) c) (fun _ => ?_)
    refine lv_aload_n hx hb dX5_burn_8 rfl (lv_at hl 0 rfl) ?_
    refine g_get hC V (ci := 5) uwX5 0 rfl rfl 11 (by decide) w_77 rfl rfl dX5_burn_9 ?_
    refine lv_iload_n hx hb dX5_burn_12 rfl (lv_at hl 1 rfl) ?_
    refine g_iald hC V 4 rfl (vp_in_nI (by omega) (by omega)) (v := (af7 j)) (congrArg _ (nI_clamp (by omega))) dX5_burn_13 ?_
    refine lv_if_le (tgt := 73) hx hb dX5_burn_14 (by decide) (fun c_3 => ?_) (fun c_3 => ?_)
    · skip
      exact g_vret (Qr := (q_s_burn_f T a0 j an am al ao au a1 a2 a3 a4 a5 a6 a7 a8 a9 a10 af3 af5 af6 af7 af8)) hC V ⟨(Nat.le_of_ble_eq_true rfl), (Nat.le_of_ble_eq_true rfl)⟩ (.inr ⟨rfl, rfl, (by first | exact fun q => absurd q.1 (by assumption) | exact fun q => q.2.1 (by assumption) | exact fun q => absurd q.2.2 (Int32.not_lt.mpr (by assumption)))⟩) dX5_burn_73
    · skip
      refine lv_aload_n hx hb dX5_burn_17 rfl (lv_at hl 0 rfl) ?_
      refine g_get hC V (ci := 5) uwX5 0 rfl rfl 7 (by decide) w_62 rfl rfl dX5_burn_18 ?_
      refine lv_iload_n hx hb dX5_burn_21 rfl (lv_at hl 1 rfl) ?_
      refine g_iald hC V 1 rfl (vp_in_nI (by omega) (by omega)) (v := (af3 j)) (congrArg _ (nI_clamp (by omega))) dX5_burn_22 ?_
      refine lv_aload_n hx hb dX5_burn_23 rfl (lv_at hl 0 rfl) ?_
      refine g_get hC V (ci := 5) uwX5 0 rfl rfl 9 (by decide) w_70 rfl rfl dX5_burn_24 ?_
      refine lv_iload_n hx hb dX5_burn_27 rfl (lv_at hl 1 rfl) ?_
      refine g_iald hC V 2 rfl (vp_in_nI (by omega) (by omega)) (v := (af5 j)) (congrArg _ (nI_clamp (by omega))) dX5_burn_28 ?_
      refine lv_icmp_le (tgt := 73) hx hb dX5_burn_29 (by decide) (fun c_4 => ?_) (fun c_4 => ?_)
      · skip
        exact g_vret (Qr := (q_s_burn_f T a0 j an am al ao au a1 a2 a3 a4 a5 a6 a7 a8 a9 a10 af3 af5 af6 af7 af8)) hC V ⟨(Nat.le_of_ble_eq_true rfl), (Nat.le_of_ble_eq_true rfl)⟩ (.inr ⟨rfl, rfl, (by first | exact fun q => absurd q.1 (by assumption) | exact fun q => q.2.1 (by assumption) | exact fun q => absurd q.2.2 (Int32.not_lt.mpr (by assumption)))⟩) dX5_burn_73
      · skip
        refine lv_aload_n hx hb dX5_burn_32 rfl (lv_at hl 0 rfl) ?_
        refine g_get hC V (ci := 5) uwX5 0 rfl rfl 11 (by decide) w_77 rfl rfl dX5_burn_33 ?_
        refine lv_iload_n hx hb dX5_burn_36 rfl (lv_at hl 1 rfl) ?_
        refine lv_iconst (v := (nI 0)) hx hb dX5_burn_37 (by decide +kernel) ?_
        refine lv_aload_n hx hb dX5_burn_38 rfl (lv_at hl 0 rfl) ?_
        refine g_get hC V (ci := 5) uwX5 0 rfl rfl 11 (by decide) w_77 rfl rfl dX5_burn_39 ?_
        refine lv_iload_n hx hb dX5_burn_42 rfl (lv_at hl 1 rfl) ?_
        refine g_iald hC V 4 rfl (vp_in_nI (by omega) (by omega)) (v := (af7 j)) (congrArg _ (nI_clamp (by omega))) dX5_burn_43 ?_
        refine lv_aload_n hx hb dX5_burn_44 rfl (lv_at hl 0 rfl) ?_
        refine g_get hC V (ci := 5) uwX5 0 rfl rfl 3 (by decide) w_45 rfl rfl dX5_burn_45 ?_
        refine lv_isub hx hb dX5_burn_48 ?_
        refine va_mmax hx hb (hml.trans hl.1.symm) hown (hts _ w_496) (hts _ w_392) (hts _ w_10) (hts _ w_393) (Nat.le_of_ble_eq_true rfl) (Nat.le_of_ble_eq_true rfl) (Nat.le_of_ble_eq_true rfl) (Nat.le_of_ble_eq_true rfl) dX5_burn_49 ?_
        refine g_iast hC V 4 rfl (vp_in_nI (by omega) (by omega)) (f' := (upd af7 j (if (nI 0) < ((af7 j) - ao) then ((af7 j) - ao) else (nI 0)))) (by rw [nI_clamp (by omega)]) (ws' := [(a0, .inr (5, [.int (nI an), .int am, .int al, .int ao, .int au, .ref a1, .ref a2, .ref a3, .ref a4, .ref a5, .ref a6, .ref a7, .ref a8, .ref a9, .ref a10])), (a3, .inl (T 0, 10, .inl af3)), (a5, .inl (T 0, 10, .inl af5)), (a6, .inl (T 0, 10, .inl af6)), (a7, .inl (T 0, 10, .inl (upd af7 j (if (nI 0) < ((af7 j) - ao) then ((af7 j) - ao) else (nI 0))))), (a8, .inl (T 0, 10, .inl af8))]) rfl dX5_burn_52 (fun H locs V => ?_)
        refine lv_aload_n hx hb dX5_burn_53 rfl (lv_at hl 0 rfl) ?_
        refine g_get hC V (ci := 5) uwX5 0 rfl rfl 12 (by decide) w_80 rfl rfl dX5_burn_54 ?_
        refine lv_iload_n hx hb dX5_burn_57 rfl (lv_at hl 1 rfl) ?_
        refine lv_dup2_11 hx hb dX5_burn_58 rfl rfl ?_
        refine g_iald hC V 5 rfl (vp_in_nI (by omega) (by omega)) (v := (af8 j)) (congrArg _ (nI_clamp (by omega))) dX5_burn_59 ?_
        refine lv_iconst (v := (nI 1)) hx hb dX5_burn_60 (by decide +kernel) ?_
        refine lv_iadd hx hb dX5_burn_61 ?_
        refine g_iast hC V 5 rfl (vp_in_nI (by omega) (by omega)) (f' := (upd af8 j ((af8 j) + (nI 1)))) (by rw [nI_clamp (by omega)]) (ws' := [(a0, .inr (5, [.int (nI an), .int am, .int al, .int ao, .int au, .ref a1, .ref a2, .ref a3, .ref a4, .ref a5, .ref a6, .ref a7, .ref a8, .ref a9, .ref a10])), (a3, .inl (T 0, 10, .inl af3)), (a5, .inl (T 0, 10, .inl af5)), (a6, .inl (T 0, 10, .inl af6)), (a7, .inl (T 0, 10, .inl (upd af7 j (if (nI 0) < ((af7 j) - ao) then ((af7 j) - ao) else (nI 0))))), (a8, .inl (T 0, 10, .inl (upd af8 j ((af8 j) + (nI 1)))))]) rfl dX5_burn_62 (fun H locs V => ?_)
        refine lv_aload_n hx hb dX5_burn_63 rfl (lv_at hl 0 rfl) ?_
        refine lv_dup hx hb dX5_burn_64 rfl ?_
        refine g_get hC V (ci := 5) uwX5 0 rfl rfl 4 (by decide) w_49 rfl rfl dX5_burn_65 ?_
        refine lv_iconst (v := (nI 1)) hx hb dX5_burn_68 (by decide +kernel) ?_
        refine lv_iadd hx hb dX5_burn_69 ?_
        refine g_put hC V (ci := 5) uwX5 tyX5 tyX5_ok nmX5 0 rfl rfl 4 (by decide) w_49 rfl rfl rfl rfl (Nat.le_of_ble_eq_true rfl) (ws' := [(a0, .inr (5, [.int (nI an), .int am, .int al, .int ao, .int (au + (nI 1)), .ref a1, .ref a2, .ref a3, .ref a4, .ref a5, .ref a6, .ref a7, .ref a8, .ref a9, .ref a10])), (a3, .inl (T 0, 10, .inl af3)), (a5, .inl (T 0, 10, .inl af5)), (a6, .inl (T 0, 10, .inl af6)), (a7, .inl (T 0, 10, .inl (upd af7 j (if (nI 0) < ((af7 j) - ao) then ((af7 j) - ao) else (nI 0))))), (a8, .inl (T 0, 10, .inl (upd af8 j ((af8 j) + (nI 1)))))]) rfl dX5_burn_70 (fun H locs V => ?_)
        exact g_vret (Qr := (q_s_burn_f T a0 j an am al ao au a1 a2 a3 a4 a5 a6 a7 a8 a9 a10 af3 af5 af6 af7 af8)) hC V ⟨(Nat.le_of_ble_eq_true rfl), (Nat.le_of_ble_eq_true rfl)⟩ (.inl ⟨(au + (nI 1)), (upd af7 j (if (nI 0) < ((af7 j) - ao) then ((af7 j) - ao) else (nI 0))), (upd af8 j ((af8 j) + (nI 1))), rfl, rfl, ⟨by assumption, by assumption, Int32.not_le.mp (by assumption)⟩, rfl, rfl⟩) dX5_burn_73

def q_s_pass_f (T : Nat → ClassId) (fa : Nat → Int32) (a0 : Nat) (pl : Int32) (sk : Int32) (sf : Int32) (sb : Int32) (an : Nat) (am : Int32) (al : Int32) (ao : Int32) (au : Int32) (a1 : Nat) (a2 : Nat) (a3 : Nat) (a4 : Nat) (a5 : Nat) (a6 : Nat) (a7 : Nat) (a8 : Nat) (a9 : Nat) (a10 : Nat) (af1 : Nat → Int32) (af2 : Nat → Int32) (af3 : Nat → Int32) (af4 : Nat → Int32) (af5 : Nat → Int32) (af6 : Nat → Int32) (af7 : Nat → Int32) (af8 : Nat → Int32) (af9 : Nat → Int32) (af10 : Nat → Int32) : Option Value → va_W → Prop := fun rr ww => (∃ (z : Int32) (u : Int32) (g3 : Nat → Int32) (g7 : Nat → Int32) (g8 : Nat → Int32) (g10 : Nat → Int32), rr = some (.int z) ∧ ww = [(a0, .inr (5, [.int (nI an), .int (am + (nI 1)), .int al, .int ao, .int u, .ref a1, .ref a2, .ref a3, .ref a4, .ref a5, .ref a6, .ref a7, .ref a8, .ref a9, .ref a10])), (a1, .inl (T 0, 10, .inl af1)), (a2, .inl (T 0, 10, .inl af2)), (a3, .inl (T 0, 10, .inl g3)), (a4, .inl (T 0, 10, .inl af4)), (a5, .inl (T 0, 10, .inl af5)), (a6, .inl (T 0, 10, .inl af6)), (a7, .inl (T 0, 10, .inl g7)), (a8, .inl (T 0, 10, .inl g8)), (a9, .inl (T 0, 10, .inl af9)), (a10, .inl (T 0, 10, .inl g10))] ∧ z = goC fa sk an ∧ (∀ i, i < an → g3 i = hNw an fa pl sf sb i) ∧ (∀ i, i < an → g7 i = st2 an fa pl sk sf sb i) ∧ u = au + goB an fa pl sk sf sb an)
set_option maxHeartbeats 4000000 in
set_option maxRecDepth 100000 in
theorem s_pass_f (l : Launch) (D : va_G) (T : Nat → ClassId) (fa : Nat → Int32) (a0 : Nat) (pl : Int32) (sk : Int32) (sf : Int32) (sb : Int32) (an : Nat) (am : Int32) (al : Int32) (ao : Int32) (au : Int32) (a1 : Nat) (a2 : Nat) (a3 : Nat) (a4 : Nat) (a5 : Nat) (a6 : Nat) (a7 : Nat) (a8 : Nat) (a9 : Nat) (a10 : Nat) (af1 : Nat → Int32) (af2 : Nat → Int32) (af3 : Nat → Int32) (af4 : Nat → Int32) (af5 : Nat → Int32) (af6 : Nat → Int32) (af7 : Nat → Int32) (af8 : Nat → Int32) (af9 : Nat → Int32) (af10 : Nat → Int32) (h_n : an ≤ 10) (h_t : ∀ i, i < an → bd (af9 i) an) (h_s1 : ∀ i, i < an → af1 i = fa (4 + i)) (h_s2 : ∀ i, i < an → af2 i = fa (14 + i)) (h_s3 : ∀ i, i < an → af3 i = fa (24 + i)) (h_s4 : ∀ i, i < an → af4 i = fa (34 + i)) (h_s5 : ∀ i, i < an → af5 i = fa (44 + i)) (h_s6 : ∀ i, i < an → af6 i = fa (54 + i)) (h_s7 : ∀ i, i < an → af7 i = fa (64 + i)) (h_s9 : ∀ i, i < an → af9 i = fa (84 + i)) (h_o : ao = fa 2) (h_a : MI an fa) : Ct l yX5_pass cX5_pass 7 (some .int) 2 0 0 D T [.ref a0, .int pl, .int sk, .int sf, .int sb] [(a0, .inr (5, [.int (nI an), .int am, .int al, .int ao, .int au, .ref a1, .ref a2, .ref a3, .ref a4, .ref a5, .ref a6, .ref a7, .ref a8, .ref a9, .ref a10])), (a1, .inl (T 0, 10, .inl af1)), (a2, .inl (T 0, 10, .inl af2)), (a3, .inl (T 0, 10, .inl af3)), (a4, .inl (T 0, 10, .inl af4)), (a5, .inl (T 0, 10, .inl af5)), (a6, .inl (T 0, 10, .inl af6)), (a7, .inl (T 0, 10, .inl af7)), (a8, .inl (T 0, 10, .inl af8)), (a9, .inl (T 0, 10, .inl af9)), (a10, .inl (T 0, 10, .inl af10))] (q_s_pass_f T fa a0 pl sk sf sb an am al ao au a1 a2 a3 a4 a5 a6 a7 a8 a9 a10 af1 af2 af3 af4 af5 af6 af7 af8 af9 af10) := by
  refine Ct.of (cc := cX5_pass) (maxL := 7) (ret := (some .int)) (by decide) (Nat.le_of_ble_eq_true rfl) ?_
  intro p e s m args below meth c A ls hC hnm V hl
  obtain ⟨hx, hb, hr, hml, hown, hts, hlocks⟩ := id hC
  generalize hH : s.heap = H at V ⊢
  clear hH
  have hl : lv_has ls 7 [(0, .ref a0), (1, .int pl), (2, .int sk), (3, .int sf), (4, .int sb)] := hl
  generalize hlo : ([] : List Loc) = locs at V ⊢
  clear hlo
  refine lv_iconst (v := (nI 0)) hx hb dX5_pass_0 (by decide +kernel) ?_
  refine lv_istore (lv' := [(5, .int (nI 0)), (0, .ref a0), (1, .int pl), (2, .int sk), (3, .int sf), (4, .int sb)]) hx hb dX5_pass_1 hl (by decide) rfl (fun ls hl => ?_)
  refine lv_iconst (v := (nI 0)) hx hb dX5_pass_3 (by decide +kernel) ?_
  refine lv_istore (lv' := [(6, .int (nI 0)), (5, .int (nI 0)), (0, .ref a0), (1, .int pl), (2, .int sk), (3, .int sf), (4, .int sb)]) hx hb dX5_pass_4 hl (by decide) rfl (fun ls hl => ?_)
  have L_1 : ∀ (fu : Nat) (k6 : Nat) (x5 : Int32) (ga : Nat → Int32), k6 ≤ an → (∀ i, i < k6 → ga i = st1 fa sk i) → (∀ i, k6 ≤ i → i < an → ga i = fa (64 + i)) → x5 = goC fa sk k6 → an - k6 < fu → ∀ (H : Heap) (locs : List Loc) (ls : Array Slot), gW D T A s [(a0, .inr (5, [.int (nI an), .int am, .int al, .int ao, .int au, .ref a1, .ref a2, .ref a3, .ref a4, .ref a5, .ref a6, .ref a7, .ref a8, .ref a9, .ref a10])), (a1, .inl (T 0, 10, .inl af1)), (a2, .inl (T 0, 10, .inl af2)), (a3, .inl (T 0, 10, .inl af3)), (a4, .inl (T 0, 10, .inl af4)), (a5, .inl (T 0, 10, .inl af5)), (a6, .inl (T 0, 10, .inl af6)), (a7, .inl (T 0, 10, .inl ga)), (a8, .inl (T 0, 10, .inl af8)), (a9, .inl (T 0, 10, .inl af9)), (a10, .inl (T 0, 10, .inl af10))] H locs → lv_has ls 7 [(6, .int (nI k6)), (5, .int x5), (0, .ref a0), (1, .int pl), (2, .int sk), (3, .int sf), (4, .int sb)] → W p l e (rmD 2 0 0) s m args below meth c H locs 0 0 (MQ below (gQ D A (q_s_pass_f T fa a0 pl sk sf sb an am al ao au a1 a2 a3 a4 a5 a6 a7 a8 a9 a10 af1 af2 af3 af4 af5 af6 af7 af8 af9 af10)) args s 0 0 A) (F0 m 6 ls []) := by
    intro fu_6
    induction fu_6 with
    | zero => intro k6 x5 ga hk6 hB hUU hCn hmu; exact absurd hmu (Nat.not_lt_zero _)
    | succ fu_6 ih_6 =>
      intro k6 x5 ga hk6 hB hUU hCn hmu_6 H locs ls V hl
      refine lv_iload hx hb dX5_pass_6 (lv_at hl 0 rfl) ?_
      refine lv_aload_n hx hb dX5_pass_8 rfl (lv_at hl 2 rfl) ?_
      refine g_get hC V (ci := 5) uwX5 0 rfl rfl 0 (by decide) w_33 rfl rfl dX5_pass_9 ?_
      refine lv_icmp_ge (tgt := 53) hx hb dX5_pass_12 (by decide) (fun c_2 => ?_) (fun c_2 => ?_)
      · skip
        have c_2 := b_le (by omega) (by omega) c_2
        refine lv_aload_n hx hb dX5_pass_53 rfl (lv_at hl 2 rfl) ?_
        refine lv_iload_n hx hb dX5_pass_54 rfl (lv_at hl 3 rfl) ?_
        refine g_callVU (nA := 1) hC V hl.1 (s_weigh_f l D T fa a0 pl an am al ao au a1 a2 a3 a4 a5 a6 a7 a8 a9 a10 af1 af2 af9 af10 (by first | assumption | omega) (by first | assumption | omega) (by first | assumption | omega) (by first | assumption | omega) (by first | assumption | omega)) w_482 w_484 w_s9 w_3 w_485 (by decide +kernel) rfl ⟨(Nat.le_of_ble_eq_true rfl), (Nat.le_of_ble_eq_true rfl)⟩ 0 (ci := 5) rfl rfl [0, 1, 2, 9, 10] rfl rfl (Nat.le_of_ble_eq_true rfl) dX5_pass_55 ⟨(Nat.le_of_ble_eq_true rfl), (Nat.le_of_ble_eq_true rfl)⟩ rfl (fun r w1 H locs hQ V => ?_)
        obtain ⟨g10_3, rfl, rfl, f_4⟩ := hQ
        have V : gW D T A s [(a0, .inr (5, [.int (nI an), .int am, .int al, .int ao, .int au, .ref a1, .ref a2, .ref a3, .ref a4, .ref a5, .ref a6, .ref a7, .ref a8, .ref a9, .ref a10])), (a1, .inl (T 0, 10, .inl af1)), (a2, .inl (T 0, 10, .inl af2)), (a3, .inl (T 0, 10, .inl af3)), (a4, .inl (T 0, 10, .inl af4)), (a5, .inl (T 0, 10, .inl af5)), (a6, .inl (T 0, 10, .inl af6)), (a7, .inl (T 0, 10, .inl ga)), (a8, .inl (T 0, 10, .inl af8)), (a9, .inl (T 0, 10, .inl af9)), (a10, .inl (T 0, 10, .inl g10_3))] H locs := V _ [0, 0, 0, 6, 0] rfl rfl rfl (by decide +kernel) rfl
        show W p l e _ s m args below meth c H locs _ _ _ (F0 m 58 ls [])
        have hw10 := f_4
        refine lv_aload_n hx hb dX5_pass_58 rfl (lv_at hl 2 rfl) ?_
        refine lv_iload_n hx hb dX5_pass_59 rfl (lv_at hl 5 rfl) ?_
        refine g_callVU (nA := 1) hC V hl.1 (s_isSmith l D T a0 sf an am al ao au a1 a2 a3 a4 a5 a6 a7 a8 a9 a10 (by first | assumption | omega)) w_486 w_426 w_427 w_3 w_428 (by decide +kernel) rfl ⟨(Nat.le_of_ble_eq_true rfl), (Nat.le_of_ble_eq_true rfl)⟩ 0 (ci := 5) rfl rfl [0] rfl rfl (Nat.le_of_ble_eq_true rfl) dX5_pass_60 ⟨(Nat.le_of_ble_eq_true rfl), (Nat.le_of_ble_eq_true rfl)⟩ rfl (fun r w1 H locs hQ V => ?_)
        rcases hQ with ⟨j_5, rfl, rfl, f_6, f_7⟩ | ⟨rfl, rfl, f_8⟩
        · have V : gW D T A s [(a0, .inr (5, [.int (nI an), .int am, .int al, .int ao, .int au, .ref a1, .ref a2, .ref a3, .ref a4, .ref a5, .ref a6, .ref a7, .ref a8, .ref a9, .ref a10])), (a1, .inl (T 0, 10, .inl af1)), (a2, .inl (T 0, 10, .inl af2)), (a3, .inl (T 0, 10, .inl af3)), (a4, .inl (T 0, 10, .inl af4)), (a5, .inl (T 0, 10, .inl af5)), (a6, .inl (T 0, 10, .inl af6)), (a7, .inl (T 0, 10, .inl ga)), (a8, .inl (T 0, 10, .inl af8)), (a9, .inl (T 0, 10, .inl af9)), (a10, .inl (T 0, 10, .inl g10_3))] H locs := V _ [0] rfl rfl rfl (by decide +kernel) rfl
          show W p l e _ s m args below meth c H locs _ _ _ (F0 m 63 ls [.int (nI 1)])
          rw [f_6] at hl
          have hsf := f_6
          have hch := ch_in (sb := sb) h_n f_6 f_7 hw10
          refine lv_if_eq (tgt := 77) hx hb dX5_pass_63 (by decide) (fun c => absurd (show (nI 1) = 0 from c) (by decide +kernel)) (fun _ => ?_)
          refine lv_aload_n hx hb dX5_pass_66 rfl (lv_at hl 2 rfl) ?_
          refine g_get hC V (ci := 5) uwX5 0 rfl rfl 14 (by decide) w_86 rfl rfl dX5_pass_67 ?_
          refine lv_iload_n hx hb dX5_pass_70 rfl (lv_at hl 5 rfl) ?_
          refine lv_dup2_11 hx hb dX5_pass_71 rfl rfl ?_
          refine g_iald hC V 10 rfl (vp_in_nI (by omega) (by omega)) (v := (g10_3 j_5)) (congrArg _ (nI_clamp (by omega))) dX5_pass_72 ?_
          refine lv_iload hx hb dX5_pass_73 (lv_at hl 6 rfl) ?_
          refine lv_iadd hx hb dX5_pass_75 ?_
          refine g_iast hC V 10 rfl (vp_in_nI (by omega) (by omega)) (f' := (upd g10_3 j_5 ((g10_3 j_5) + sb))) (by rw [nI_clamp (by omega)]) (ws' := [(a0, .inr (5, [.int (nI an), .int am, .int al, .int ao, .int au, .ref a1, .ref a2, .ref a3, .ref a4, .ref a5, .ref a6, .ref a7, .ref a8, .ref a9, .ref a10])), (a1, .inl (T 0, 10, .inl af1)), (a2, .inl (T 0, 10, .inl af2)), (a3, .inl (T 0, 10, .inl af3)), (a4, .inl (T 0, 10, .inl af4)), (a5, .inl (T 0, 10, .inl af5)), (a6, .inl (T 0, 10, .inl af6)), (a7, .inl (T 0, 10, .inl ga)), (a8, .inl (T 0, 10, .inl af8)), (a9, .inl (T 0, 10, .inl af9)), (a10, .inl (T 0, 10, .inl (upd g10_3 j_5 ((g10_3 j_5) + sb))))]) rfl dX5_pass_76 (fun H locs V => ?_)
          refine lv_iconst (v := (nI 0)) hx hb dX5_pass_77 (by decide +kernel) ?_
          refine lv_istore (lv' := [(6, .int (nI 0)), (5, .int x5), (0, .ref a0), (1, .int pl), (2, .int sk), (3, .int (nI j_5)), (4, .int sb)]) hx hb dX5_pass_78 hl (by decide) rfl (fun ls hl => ?_)
          have L_9 : ∀ (fu : Nat) (k80 : Nat) (uv : Int32) (gb : Nat → Int32) (gc : Nat → Int32) (gd : Nat → Int32), k80 ≤ an → (∀ i, i < k80 → gb i = hNw an fa pl sf sb i) → (∀ i, k80 ≤ i → i < an → gb i = fa (24 + i)) → (∀ i, i < k80 → gc i = st2 an fa pl sk sf sb i) → (∀ i, k80 ≤ i → i < an → gc i = st1 fa sk i) → uv = au + goB an fa pl sk sf sb k80 → an - k80 < fu → ∀ (H : Heap) (locs : List Loc) (ls : Array Slot), gW D T A s [(a0, .inr (5, [.int (nI an), .int am, .int al, .int ao, .int uv, .ref a1, .ref a2, .ref a3, .ref a4, .ref a5, .ref a6, .ref a7, .ref a8, .ref a9, .ref a10])), (a1, .inl (T 0, 10, .inl af1)), (a2, .inl (T 0, 10, .inl af2)), (a3, .inl (T 0, 10, .inl gb)), (a4, .inl (T 0, 10, .inl af4)), (a5, .inl (T 0, 10, .inl af5)), (a6, .inl (T 0, 10, .inl af6)), (a7, .inl (T 0, 10, .inl gc)), (a8, .inl (T 0, 10, .inl gd)), (a9, .inl (T 0, 10, .inl af9)), (a10, .inl (T 0, 10, .inl (upd g10_3 j_5 ((g10_3 j_5) + sb))))] H locs → lv_has ls 7 [(6, .int (nI k80)), (5, .int x5), (0, .ref a0), (1, .int pl), (2, .int sk), (3, .int (nI j_5)), (4, .int sb)] → W p l e (rmD 2 0 0) s m args below meth c H locs 0 0 (MQ below (gQ D A (q_s_pass_f T fa a0 pl sk sf sb an am al ao au a1 a2 a3 a4 a5 a6 a7 a8 a9 a10 af1 af2 af3 af4 af5 af6 af7 af8 af9 af10)) args s 0 0 A) (F0 m 80 ls []) := by
            intro fu_80
            induction fu_80 with
            | zero => intro k80 uv gb gc gd hk80 hb1 hb2 hc1 hc2 huv hmu; exact absurd hmu (Nat.not_lt_zero _)
            | succ fu_80 ih_80 =>
              intro k80 uv gb gc gd hk80 hb1 hb2 hc1 hc2 huv hmu_80 H locs ls V hl
              refine lv_iload hx hb dX5_pass_80 (lv_at hl 0 rfl) ?_
              refine lv_aload_n hx hb dX5_pass_82 rfl (lv_at hl 2 rfl) ?_
              refine g_get hC V (ci := 5) uwX5 0 rfl rfl 0 (by decide) w_33 rfl rfl dX5_pass_83 ?_
              refine lv_icmp_ge (tgt := 126) hx hb dX5_pass_86 (by decide) (fun c_10 => ?_) (fun c_10 => ?_)
              · skip
                have c_10 := b_le (by omega) (by omega) c_10
                refine lv_aload_n hx hb dX5_pass_126 rfl (lv_at hl 2 rfl) ?_
                refine lv_dup hx hb dX5_pass_127 rfl ?_
                refine g_get hC V (ci := 5) uwX5 0 rfl rfl 1 (by decide) w_39 rfl rfl dX5_pass_128 ?_
                refine lv_iconst (v := (nI 1)) hx hb dX5_pass_131 (by decide +kernel) ?_
                refine lv_iadd hx hb dX5_pass_132 ?_
                refine g_put hC V (ci := 5) uwX5 tyX5 tyX5_ok nmX5 0 rfl rfl 1 (by decide) w_39 rfl rfl rfl rfl (Nat.le_of_ble_eq_true rfl) (ws' := [(a0, .inr (5, [.int (nI an), .int (am + (nI 1)), .int al, .int ao, .int uv, .ref a1, .ref a2, .ref a3, .ref a4, .ref a5, .ref a6, .ref a7, .ref a8, .ref a9, .ref a10])), (a1, .inl (T 0, 10, .inl af1)), (a2, .inl (T 0, 10, .inl af2)), (a3, .inl (T 0, 10, .inl gb)), (a4, .inl (T 0, 10, .inl af4)), (a5, .inl (T 0, 10, .inl af5)), (a6, .inl (T 0, 10, .inl af6)), (a7, .inl (T 0, 10, .inl gc)), (a8, .inl (T 0, 10, .inl gd)), (a9, .inl (T 0, 10, .inl af9)), (a10, .inl (T 0, 10, .inl (upd g10_3 j_5 ((g10_3 j_5) + sb))))]) rfl dX5_pass_133 (fun H locs V => ?_)
                refine lv_iload hx hb dX5_pass_136 (lv_at hl 1 rfl) ?_
                exact g_iret (Qr := (q_s_pass_f T fa a0 pl sk sf sb an am al ao au a1 a2 a3 a4 a5 a6 a7 a8 a9 a10 af1 af2 af3 af4 af5 af6 af7 af8 af9 af10)) hC V ⟨(Nat.le_of_ble_eq_true rfl), (Nat.le_of_ble_eq_true rfl)⟩ ⟨x5, uv, gb, gc, gd, (upd g10_3 j_5 ((g10_3 j_5) + sb)), rfl, rfl, (by rw [hCn]; congr 1; omega), (fun i hi => hb1 i (by omega)), (fun i hi => hc1 i (by omega)), (by rw [huv]; congr 2; omega)⟩ dX5_pass_138
              · skip
                have c_10 := b_nle (by omega) (by omega) c_10
                refine lv_aload_n hx hb dX5_pass_89 rfl (lv_at hl 2 rfl) ?_
                refine g_get hC V (ci := 5) uwX5 0 rfl rfl 7 (by decide) w_62 rfl rfl dX5_pass_90 ?_
                refine lv_iload hx hb dX5_pass_93 (lv_at hl 0 rfl) ?_
                refine lv_aload_n hx hb dX5_pass_95 rfl (lv_at hl 2 rfl) ?_
                refine g_get hC V (ci := 5) uwX5 0 rfl rfl 7 (by decide) w_62 rfl rfl dX5_pass_96 ?_
                refine lv_iload hx hb dX5_pass_99 (lv_at hl 0 rfl) ?_
                refine g_iald hC V 3 rfl (vp_in_nI (by omega) (by omega)) (v := (gb k80)) (congrArg _ (nI_clamp (by omega))) dX5_pass_101 ?_
                refine lv_aload_n hx hb dX5_pass_102 rfl (lv_at hl 2 rfl) ?_
                refine g_get hC V (ci := 5) uwX5 0 rfl rfl 14 (by decide) w_86 rfl rfl dX5_pass_103 ?_
                refine lv_iload hx hb dX5_pass_106 (lv_at hl 0 rfl) ?_
                refine g_iald hC V 10 rfl (vp_in_nI (by omega) (by omega)) (v := ((upd g10_3 j_5 ((g10_3 j_5) + sb)) k80)) (congrArg _ (nI_clamp (by omega))) dX5_pass_108 ?_
                refine lv_iadd hx hb dX5_pass_109 ?_
                refine g_callSNU (nA := 1) (host := RX7) hC V hl.1 (c_bounded_f l D T ((gb k80) + ((upd g10_3 j_5 ((g10_3 j_5) + sb)) k80))) w_489 (List.mem_of_getElem? (i := 14) rfl) w_2 w_488 (by decide +kernel) rfl ⟨(Nat.le_of_ble_eq_true rfl), (Nat.le_of_ble_eq_true rfl)⟩ [] rfl rfl (Nat.le_of_ble_eq_true rfl) dX5_pass_110 ⟨(Nat.le_of_ble_eq_true rfl), (Nat.le_of_ble_eq_true rfl)⟩ rfl (fun r w1 H locs hQ V => ?_)
                obtain ⟨z_11, rfl, rfl, f_12⟩ := hQ
                have V : gW D T A s [(a0, .inr (5, [.int (nI an), .int am, .int al, .int ao, .int uv, .ref a1, .ref a2, .ref a3, .ref a4, .ref a5, .ref a6, .ref a7, .ref a8, .ref a9, .ref a10])), (a1, .inl (T 0, 10, .inl af1)), (a2, .inl (T 0, 10, .inl af2)), (a3, .inl (T 0, 10, .inl gb)), (a4, .inl (T 0, 10, .inl af4)), (a5, .inl (T 0, 10, .inl af5)), (a6, .inl (T 0, 10, .inl af6)), (a7, .inl (T 0, 10, .inl gc)), (a8, .inl (T 0, 10, .inl gd)), (a9, .inl (T 0, 10, .inl af9)), (a10, .inl (T 0, 10, .inl (upd g10_3 j_5 ((g10_3 j_5) + sb))))] H locs := V _ [] rfl rfl rfl (by decide +kernel) rfl
                show W p l e _ s m args below meth c H locs _ _ _ (F0 m 113 ls [.int z_11, .int (nI k80), .ref a3])
                have hz80 : z_11 = hNw an fa pl sf sb k80 := hN_c (hb2 k80 (Nat.le_refl _) (by omega)) (hch k80 (by omega)) f_12
                refine g_iast hC V 3 rfl (vp_in_nI (by omega) (by omega)) (f' := (upd gb k80 z_11)) (by rw [nI_clamp (by omega)]) (ws' := [(a0, .inr (5, [.int (nI an), .int am, .int al, .int ao, .int uv, .ref a1, .ref a2, .ref a3, .ref a4, .ref a5, .ref a6, .ref a7, .ref a8, .ref a9, .ref a10])), (a1, .inl (T 0, 10, .inl af1)), (a2, .inl (T 0, 10, .inl af2)), (a3, .inl (T 0, 10, .inl (upd gb k80 z_11))), (a4, .inl (T 0, 10, .inl af4)), (a5, .inl (T 0, 10, .inl af5)), (a6, .inl (T 0, 10, .inl af6)), (a7, .inl (T 0, 10, .inl gc)), (a8, .inl (T 0, 10, .inl gd)), (a9, .inl (T 0, 10, .inl af9)), (a10, .inl (T 0, 10, .inl (upd g10_3 j_5 ((g10_3 j_5) + sb))))]) rfl dX5_pass_113 (fun H locs V => ?_)
                refine lv_aload_n hx hb dX5_pass_114 rfl (lv_at hl 2 rfl) ?_
                refine lv_iload hx hb dX5_pass_115 (lv_at hl 0 rfl) ?_
                refine g_callVU (nA := 1) hC V hl.1 (s_burn_f l D T a0 k80 an am al ao uv a1 a2 a3 a4 a5 a6 a7 a8 a9 a10 (upd gb k80 z_11) af5 af6 gc gd (by first | assumption | omega)) w_492 w_494 w_s10 w_3 w_495 (by decide +kernel) rfl ⟨(Nat.le_of_ble_eq_true rfl), (Nat.le_of_ble_eq_true rfl)⟩ 0 (ci := 5) rfl rfl [0, 3, 5, 6, 7, 8] rfl rfl (Nat.le_of_ble_eq_true rfl) dX5_pass_117 ⟨(Nat.le_of_ble_eq_true rfl), (Nat.le_of_ble_eq_true rfl)⟩ rfl (fun r w1 H locs hQ V => ?_)
                rcases hQ with ⟨u_13, g7_14, g8_15, rfl, rfl, f_16, f_17, f_18⟩ | ⟨rfl, rfl, f_19⟩
                · have V : gW D T A s [(a0, .inr (5, [.int (nI an), .int am, .int al, .int ao, .int u_13, .ref a1, .ref a2, .ref a3, .ref a4, .ref a5, .ref a6, .ref a7, .ref a8, .ref a9, .ref a10])), (a1, .inl (T 0, 10, .inl af1)), (a2, .inl (T 0, 10, .inl af2)), (a3, .inl (T 0, 10, .inl (upd gb k80 z_11))), (a4, .inl (T 0, 10, .inl af4)), (a5, .inl (T 0, 10, .inl af5)), (a6, .inl (T 0, 10, .inl af6)), (a7, .inl (T 0, 10, .inl g7_14)), (a8, .inl (T 0, 10, .inl g8_15)), (a9, .inl (T 0, 10, .inl af9)), (a10, .inl (T 0, 10, .inl (upd g10_3 j_5 ((g10_3 j_5) + sb))))] H locs := V _ [0, 2, 1, 0, 0, 0] rfl rfl rfl (by decide +kernel) rfl
                  show W p l e _ s m args below meth c H locs _ _ _ (F0 m 120 ls [])
                  have hbu := cb_y (sk := sk) h_a (by omega) (hc2 k80 (Nat.le_refl _) (by omega)) (h_s6 _ (by omega)) (h_s5 _ (by omega)) (up_same.trans hz80) f_16.1 f_16.2.1 f_16.2.2
                  refine lv_iinc (v := (nI (k80 + 1))) (lv' := [(6, .int (nI (k80 + 1))), (5, .int x5), (0, .ref a0), (1, .int pl), (2, .int sk), (3, .int (nI j_5)), (4, .int sb)]) hx hb dX5_pass_120 hl (k := 0) rfl (nI_1 _) (by decide) rfl (fun ls hl => ?_)
                  refine lv_goto (tgt := 80) hx hb dX5_pass_123 (by decide) ?_
                  exact ih_80 (k80 + 1) u_13 (upd gb k80 z_11) g7_14 g8_15 (by omega) (up_one (p := fun i x => x = hNw an fa pl sf sb i) hb1 hz80) (fun i h1 h2 => (up_other (by omega)).trans (hb2 i (by omega) h2)) (fun i hi => by rw [f_17]; exact up_one (p := fun i x => x = st2 an fa pl sk sf sb i) hc1 (s2_y h_a (by omega) (hc2 k80 (Nat.le_refl _) (by omega)) h_o hbu) i hi) (fun i h1 h2 => by rw [f_17, up_other (by omega)]; exact hc2 i (by omega) h2) (by rw [f_18, huv]; exact gBB_y hbu) (by omega) _ _ _ V (lv_sub hl [0, 1, 2, 3, 4, 5, 6] rfl)
                · have V : gW D T A s [(a0, .inr (5, [.int (nI an), .int am, .int al, .int ao, .int uv, .ref a1, .ref a2, .ref a3, .ref a4, .ref a5, .ref a6, .ref a7, .ref a8, .ref a9, .ref a10])), (a1, .inl (T 0, 10, .inl af1)), (a2, .inl (T 0, 10, .inl af2)), (a3, .inl (T 0, 10, .inl (upd gb k80 z_11))), (a4, .inl (T 0, 10, .inl af4)), (a5, .inl (T 0, 10, .inl af5)), (a6, .inl (T 0, 10, .inl af6)), (a7, .inl (T 0, 10, .inl gc)), (a8, .inl (T 0, 10, .inl gd)), (a9, .inl (T 0, 10, .inl af9)), (a10, .inl (T 0, 10, .inl (upd g10_3 j_5 ((g10_3 j_5) + sb))))] H locs := V _ [0, 2, 1, 0, 0, 0] rfl rfl rfl (by decide +kernel) rfl
                  show W p l e _ s m args below meth c H locs _ _ _ (F0 m 120 ls [])
                  have hnb := cb_n (sk := sk) h_a (by omega) (hc2 k80 (Nat.le_refl _) (by omega)) (h_s6 _ (by omega)) (h_s5 _ (by omega)) (up_same.trans hz80) f_19
                  refine lv_iinc (v := (nI (k80 + 1))) (lv' := [(6, .int (nI (k80 + 1))), (5, .int x5), (0, .ref a0), (1, .int pl), (2, .int sk), (3, .int (nI j_5)), (4, .int sb)]) hx hb dX5_pass_120 hl (k := 0) rfl (nI_1 _) (by decide) rfl (fun ls hl => ?_)
                  refine lv_goto (tgt := 80) hx hb dX5_pass_123 (by decide) ?_
                  exact ih_80 (k80 + 1) uv (upd gb k80 z_11) gc gd (by omega) (up_one (p := fun i x => x = hNw an fa pl sf sb i) hb1 hz80) (fun i h1 h2 => (up_other (by omega)).trans (hb2 i (by omega) h2)) (one_more hc1 (s2_n (hc2 k80 (Nat.le_refl _) (by omega)) hnb)) (fun i h1 h2 => hc2 i (by omega) h2) (by rw [huv]; exact congrArg _ (gBB_n hnb)) (by omega) _ _ _ V (lv_sub hl [0, 1, 2, 3, 4, 5, 6] rfl)
          exact L_9 _ 0 au af3 ga af8 (by omega) (fun i h => absurd h (Nat.not_lt_zero _)) (fun i _ h => h_s3 i h) (fun i h => absurd h (Nat.not_lt_zero _)) (fun i _ h => hB i (by omega)) (add_n0 _) (Nat.lt_succ_self _) _ _ _ V (lv_sub hl [0, 1, 2, 3, 4, 5, 6] rfl)
        · have V : gW D T A s [(a0, .inr (5, [.int (nI an), .int am, .int al, .int ao, .int au, .ref a1, .ref a2, .ref a3, .ref a4, .ref a5, .ref a6, .ref a7, .ref a8, .ref a9, .ref a10])), (a1, .inl (T 0, 10, .inl af1)), (a2, .inl (T 0, 10, .inl af2)), (a3, .inl (T 0, 10, .inl af3)), (a4, .inl (T 0, 10, .inl af4)), (a5, .inl (T 0, 10, .inl af5)), (a6, .inl (T 0, 10, .inl af6)), (a7, .inl (T 0, 10, .inl ga)), (a8, .inl (T 0, 10, .inl af8)), (a9, .inl (T 0, 10, .inl af9)), (a10, .inl (T 0, 10, .inl g10_3))] H locs := V _ [0] rfl rfl rfl (by decide +kernel) rfl
          show W p l e _ s m args below meth c H locs _ _ _ (F0 m 63 ls [.int (nI 0)])
          have hch := ch_out (sb := sb) h_n f_8 hw10
          refine lv_if_eq (tgt := 77) hx hb dX5_pass_63 (by decide) (fun _ => ?_) (fun c => absurd (show (nI 0) = 0 by decide +kernel) c)
          refine lv_iconst (v := (nI 0)) hx hb dX5_pass_77 (by decide +kernel) ?_
          refine lv_istore (lv' := [(6, .int (nI 0)), (5, .int x5), (0, .ref a0), (1, .int pl), (2, .int sk), (3, .int sf), (4, .int sb)]) hx hb dX5_pass_78 hl (by decide) rfl (fun ls hl => ?_)
          have L_20 : ∀ (fu : Nat) (k80 : Nat) (uv : Int32) (gb : Nat → Int32) (gc : Nat → Int32) (gd : Nat → Int32), k80 ≤ an → (∀ i, i < k80 → gb i = hNw an fa pl sf sb i) → (∀ i, k80 ≤ i → i < an → gb i = fa (24 + i)) → (∀ i, i < k80 → gc i = st2 an fa pl sk sf sb i) → (∀ i, k80 ≤ i → i < an → gc i = st1 fa sk i) → uv = au + goB an fa pl sk sf sb k80 → an - k80 < fu → ∀ (H : Heap) (locs : List Loc) (ls : Array Slot), gW D T A s [(a0, .inr (5, [.int (nI an), .int am, .int al, .int ao, .int uv, .ref a1, .ref a2, .ref a3, .ref a4, .ref a5, .ref a6, .ref a7, .ref a8, .ref a9, .ref a10])), (a1, .inl (T 0, 10, .inl af1)), (a2, .inl (T 0, 10, .inl af2)), (a3, .inl (T 0, 10, .inl gb)), (a4, .inl (T 0, 10, .inl af4)), (a5, .inl (T 0, 10, .inl af5)), (a6, .inl (T 0, 10, .inl af6)), (a7, .inl (T 0, 10, .inl gc)), (a8, .inl (T 0, 10, .inl gd)), (a9, .inl (T 0, 10, .inl af9)), (a10, .inl (T 0, 10, .inl g10_3))] H locs → lv_has ls 7 [(6, .int (nI k80)), (5, .int x5), (0, .ref a0), (1, .int pl), (2, .int sk), (3, .int sf), (4, .int sb)] → W p l e (rmD 2 0 0) s m args below meth c H locs 0 0 (MQ below (gQ D A (q_s_pass_f T fa a0 pl sk sf sb an am al ao au a1 a2 a3 a4 a5 a6 a7 a8 a9 a10 af1 af2 af3 af4 af5 af6 af7 af8 af9 af10)) args s 0 0 A) (F0 m 80 ls []) := by
            intro fu_80
            induction fu_80 with
            | zero => intro k80 uv gb gc gd hk80 hb1 hb2 hc1 hc2 huv hmu; exact absurd hmu (Nat.not_lt_zero _)
            | succ fu_80 ih_80 =>
              intro k80 uv gb gc gd hk80 hb1 hb2 hc1 hc2 huv hmu_80 H locs ls V hl
              refine lv_iload hx hb dX5_pass_80 (lv_at hl 0 rfl) ?_
              refine lv_aload_n hx hb dX5_pass_82 rfl (lv_at hl 2 rfl) ?_
              refine g_get hC V (ci := 5) uwX5 0 rfl rfl 0 (by decide) w_33 rfl rfl dX5_pass_83 ?_
              refine lv_icmp_ge (tgt := 126) hx hb dX5_pass_86 (by decide) (fun c_21 => ?_) (fun c_21 => ?_)
              · skip
                have c_21 := b_le (by omega) (by omega) c_21
                refine lv_aload_n hx hb dX5_pass_126 rfl (lv_at hl 2 rfl) ?_
                refine lv_dup hx hb dX5_pass_127 rfl ?_
                refine g_get hC V (ci := 5) uwX5 0 rfl rfl 1 (by decide) w_39 rfl rfl dX5_pass_128 ?_
                refine lv_iconst (v := (nI 1)) hx hb dX5_pass_131 (by decide +kernel) ?_
                refine lv_iadd hx hb dX5_pass_132 ?_
                refine g_put hC V (ci := 5) uwX5 tyX5 tyX5_ok nmX5 0 rfl rfl 1 (by decide) w_39 rfl rfl rfl rfl (Nat.le_of_ble_eq_true rfl) (ws' := [(a0, .inr (5, [.int (nI an), .int (am + (nI 1)), .int al, .int ao, .int uv, .ref a1, .ref a2, .ref a3, .ref a4, .ref a5, .ref a6, .ref a7, .ref a8, .ref a9, .ref a10])), (a1, .inl (T 0, 10, .inl af1)), (a2, .inl (T 0, 10, .inl af2)), (a3, .inl (T 0, 10, .inl gb)), (a4, .inl (T 0, 10, .inl af4)), (a5, .inl (T 0, 10, .inl af5)), (a6, .inl (T 0, 10, .inl af6)), (a7, .inl (T 0, 10, .inl gc)), (a8, .inl (T 0, 10, .inl gd)), (a9, .inl (T 0, 10, .inl af9)), (a10, .inl (T 0, 10, .inl g10_3))]) rfl dX5_pass_133 (fun H locs V => ?_)
                refine lv_iload hx hb dX5_pass_136 (lv_at hl 1 rfl) ?_
                exact g_iret (Qr := (q_s_pass_f T fa a0 pl sk sf sb an am al ao au a1 a2 a3 a4 a5 a6 a7 a8 a9 a10 af1 af2 af3 af4 af5 af6 af7 af8 af9 af10)) hC V ⟨(Nat.le_of_ble_eq_true rfl), (Nat.le_of_ble_eq_true rfl)⟩ ⟨x5, uv, gb, gc, gd, g10_3, rfl, rfl, (by rw [hCn]; congr 1; omega), (fun i hi => hb1 i (by omega)), (fun i hi => hc1 i (by omega)), (by rw [huv]; congr 2; omega)⟩ dX5_pass_138
              · skip
                have c_21 := b_nle (by omega) (by omega) c_21
                refine lv_aload_n hx hb dX5_pass_89 rfl (lv_at hl 2 rfl) ?_
                refine g_get hC V (ci := 5) uwX5 0 rfl rfl 7 (by decide) w_62 rfl rfl dX5_pass_90 ?_
                refine lv_iload hx hb dX5_pass_93 (lv_at hl 0 rfl) ?_
                refine lv_aload_n hx hb dX5_pass_95 rfl (lv_at hl 2 rfl) ?_
                refine g_get hC V (ci := 5) uwX5 0 rfl rfl 7 (by decide) w_62 rfl rfl dX5_pass_96 ?_
                refine lv_iload hx hb dX5_pass_99 (lv_at hl 0 rfl) ?_
                refine g_iald hC V 3 rfl (vp_in_nI (by omega) (by omega)) (v := (gb k80)) (congrArg _ (nI_clamp (by omega))) dX5_pass_101 ?_
                refine lv_aload_n hx hb dX5_pass_102 rfl (lv_at hl 2 rfl) ?_
                refine g_get hC V (ci := 5) uwX5 0 rfl rfl 14 (by decide) w_86 rfl rfl dX5_pass_103 ?_
                refine lv_iload hx hb dX5_pass_106 (lv_at hl 0 rfl) ?_
                refine g_iald hC V 10 rfl (vp_in_nI (by omega) (by omega)) (v := (g10_3 k80)) (congrArg _ (nI_clamp (by omega))) dX5_pass_108 ?_
                refine lv_iadd hx hb dX5_pass_109 ?_
                refine g_callSNU (nA := 1) (host := RX7) hC V hl.1 (c_bounded_f l D T ((gb k80) + (g10_3 k80))) w_489 (List.mem_of_getElem? (i := 14) rfl) w_2 w_488 (by decide +kernel) rfl ⟨(Nat.le_of_ble_eq_true rfl), (Nat.le_of_ble_eq_true rfl)⟩ [] rfl rfl (Nat.le_of_ble_eq_true rfl) dX5_pass_110 ⟨(Nat.le_of_ble_eq_true rfl), (Nat.le_of_ble_eq_true rfl)⟩ rfl (fun r w1 H locs hQ V => ?_)
                obtain ⟨z_22, rfl, rfl, f_23⟩ := hQ
                have V : gW D T A s [(a0, .inr (5, [.int (nI an), .int am, .int al, .int ao, .int uv, .ref a1, .ref a2, .ref a3, .ref a4, .ref a5, .ref a6, .ref a7, .ref a8, .ref a9, .ref a10])), (a1, .inl (T 0, 10, .inl af1)), (a2, .inl (T 0, 10, .inl af2)), (a3, .inl (T 0, 10, .inl gb)), (a4, .inl (T 0, 10, .inl af4)), (a5, .inl (T 0, 10, .inl af5)), (a6, .inl (T 0, 10, .inl af6)), (a7, .inl (T 0, 10, .inl gc)), (a8, .inl (T 0, 10, .inl gd)), (a9, .inl (T 0, 10, .inl af9)), (a10, .inl (T 0, 10, .inl g10_3))] H locs := V _ [] rfl rfl rfl (by decide +kernel) rfl
                show W p l e _ s m args below meth c H locs _ _ _ (F0 m 113 ls [.int z_22, .int (nI k80), .ref a3])
                have hz80 : z_22 = hNw an fa pl sf sb k80 := hN_c (hb2 k80 (Nat.le_refl _) (by omega)) (hch k80 (by omega)) f_23
                refine g_iast hC V 3 rfl (vp_in_nI (by omega) (by omega)) (f' := (upd gb k80 z_22)) (by rw [nI_clamp (by omega)]) (ws' := [(a0, .inr (5, [.int (nI an), .int am, .int al, .int ao, .int uv, .ref a1, .ref a2, .ref a3, .ref a4, .ref a5, .ref a6, .ref a7, .ref a8, .ref a9, .ref a10])), (a1, .inl (T 0, 10, .inl af1)), (a2, .inl (T 0, 10, .inl af2)), (a3, .inl (T 0, 10, .inl (upd gb k80 z_22))), (a4, .inl (T 0, 10, .inl af4)), (a5, .inl (T 0, 10, .inl af5)), (a6, .inl (T 0, 10, .inl af6)), (a7, .inl (T 0, 10, .inl gc)), (a8, .inl (T 0, 10, .inl gd)), (a9, .inl (T 0, 10, .inl af9)), (a10, .inl (T 0, 10, .inl g10_3))]) rfl dX5_pass_113 (fun H locs V => ?_)
                refine lv_aload_n hx hb dX5_pass_114 rfl (lv_at hl 2 rfl) ?_
                refine lv_iload hx hb dX5_pass_115 (lv_at hl 0 rfl) ?_
                refine g_callVU (nA := 1) hC V hl.1 (s_burn_f l D T a0 k80 an am al ao uv a1 a2 a3 a4 a5 a6 a7 a8 a9 a10 (upd gb k80 z_22) af5 af6 gc gd (by first | assumption | omega)) w_492 w_494 w_s10 w_3 w_495 (by decide +kernel) rfl ⟨(Nat.le_of_ble_eq_true rfl), (Nat.le_of_ble_eq_true rfl)⟩ 0 (ci := 5) rfl rfl [0, 3, 5, 6, 7, 8] rfl rfl (Nat.le_of_ble_eq_true rfl) dX5_pass_117 ⟨(Nat.le_of_ble_eq_true rfl), (Nat.le_of_ble_eq_true rfl)⟩ rfl (fun r w1 H locs hQ V => ?_)
                rcases hQ with ⟨u_24, g7_25, g8_26, rfl, rfl, f_27, f_28, f_29⟩ | ⟨rfl, rfl, f_30⟩
                · have V : gW D T A s [(a0, .inr (5, [.int (nI an), .int am, .int al, .int ao, .int u_24, .ref a1, .ref a2, .ref a3, .ref a4, .ref a5, .ref a6, .ref a7, .ref a8, .ref a9, .ref a10])), (a1, .inl (T 0, 10, .inl af1)), (a2, .inl (T 0, 10, .inl af2)), (a3, .inl (T 0, 10, .inl (upd gb k80 z_22))), (a4, .inl (T 0, 10, .inl af4)), (a5, .inl (T 0, 10, .inl af5)), (a6, .inl (T 0, 10, .inl af6)), (a7, .inl (T 0, 10, .inl g7_25)), (a8, .inl (T 0, 10, .inl g8_26)), (a9, .inl (T 0, 10, .inl af9)), (a10, .inl (T 0, 10, .inl g10_3))] H locs := V _ [0, 2, 1, 0, 0, 0] rfl rfl rfl (by decide +kernel) rfl
                  show W p l e _ s m args below meth c H locs _ _ _ (F0 m 120 ls [])
                  have hbu := cb_y (sk := sk) h_a (by omega) (hc2 k80 (Nat.le_refl _) (by omega)) (h_s6 _ (by omega)) (h_s5 _ (by omega)) (up_same.trans hz80) f_27.1 f_27.2.1 f_27.2.2
                  refine lv_iinc (v := (nI (k80 + 1))) (lv' := [(6, .int (nI (k80 + 1))), (5, .int x5), (0, .ref a0), (1, .int pl), (2, .int sk), (3, .int sf), (4, .int sb)]) hx hb dX5_pass_120 hl (k := 0) rfl (nI_1 _) (by decide) rfl (fun ls hl => ?_)
                  refine lv_goto (tgt := 80) hx hb dX5_pass_123 (by decide) ?_
                  exact ih_80 (k80 + 1) u_24 (upd gb k80 z_22) g7_25 g8_26 (by omega) (up_one (p := fun i x => x = hNw an fa pl sf sb i) hb1 hz80) (fun i h1 h2 => (up_other (by omega)).trans (hb2 i (by omega) h2)) (fun i hi => by rw [f_28]; exact up_one (p := fun i x => x = st2 an fa pl sk sf sb i) hc1 (s2_y h_a (by omega) (hc2 k80 (Nat.le_refl _) (by omega)) h_o hbu) i hi) (fun i h1 h2 => by rw [f_28, up_other (by omega)]; exact hc2 i (by omega) h2) (by rw [f_29, huv]; exact gBB_y hbu) (by omega) _ _ _ V (lv_sub hl [0, 1, 2, 3, 4, 5, 6] rfl)
                · have V : gW D T A s [(a0, .inr (5, [.int (nI an), .int am, .int al, .int ao, .int uv, .ref a1, .ref a2, .ref a3, .ref a4, .ref a5, .ref a6, .ref a7, .ref a8, .ref a9, .ref a10])), (a1, .inl (T 0, 10, .inl af1)), (a2, .inl (T 0, 10, .inl af2)), (a3, .inl (T 0, 10, .inl (upd gb k80 z_22))), (a4, .inl (T 0, 10, .inl af4)), (a5, .inl (T 0, 10, .inl af5)), (a6, .inl (T 0, 10, .inl af6)), (a7, .inl (T 0, 10, .inl gc)), (a8, .inl (T 0, 10, .inl gd)), (a9, .inl (T 0, 10, .inl af9)), (a10, .inl (T 0, 10, .inl g10_3))] H locs := V _ [0, 2, 1, 0, 0, 0] rfl rfl rfl (by decide +kernel) rfl
                  show W p l e _ s m args below meth c H locs _ _ _ (F0 m 120 ls [])
                  have hnb := cb_n (sk := sk) h_a (by omega) (hc2 k80 (Nat.le_refl _) (by omega)) (h_s6 _ (by omega)) (h_s5 _ (by omega)) (up_same.trans hz80) f_30
                  refine lv_iinc (v := (nI (k80 + 1))) (lv' := [(6, .int (nI (k80 + 1))), (5, .int x5), (0, .ref a0), (1, .int pl), (2, .int sk), (3, .int sf), (4, .int sb)]) hx hb dX5_pass_120 hl (k := 0) rfl (nI_1 _) (by decide) rfl (fun ls hl => ?_)
                  refine lv_goto (tgt := 80) hx hb dX5_pass_123 (by decide) ?_
                  exact ih_80 (k80 + 1) uv (upd gb k80 z_22) gc gd (by omega) (up_one (p := fun i x => x = hNw an fa pl sf sb i) hb1 hz80) (fun i h1 h2 => (up_other (by omega)).trans (hb2 i (by omega) h2)) (one_more hc1 (s2_n (hc2 k80 (Nat.le_refl _) (by omega)) hnb)) (fun i h1 h2 => hc2 i (by omega) h2) (by rw [huv]; exact congrArg _ (gBB_n hnb)) (by omega) _ _ _ V (lv_sub hl [0, 1, 2, 3, 4, 5, 6] rfl)
          exact L_20 _ 0 au af3 ga af8 (by omega) (fun i h => absurd h (Nat.not_lt_zero _)) (fun i _ h => h_s3 i h) (fun i h => absurd h (Nat.not_lt_zero _)) (fun i _ h => hB i (by omega)) (add_n0 _) (Nat.lt_succ_self _) _ _ _ V (lv_sub hl [0, 1, 2, 3, 4, 5, 6] rfl)
      · skip
        have c_2 := b_nle (by omega) (by omega) c_2
        have hU : ∀ q, k6 ≤ q → ga k6 = fa (64 + k6) := fun q _ => hUU k6 (Nat.le_refl _) (by omega)
        refine lv_iload_n hx hb dX5_pass_15 rfl (lv_at hl 4 rfl) ?_
        refine lv_iload hx hb dX5_pass_16 (lv_at hl 0 rfl) ?_
        refine g_callSNU (nA := 2) (host := RX7) hC V hl.1 (c_isIn_f l D T sk k6) w_472 (List.mem_of_getElem? (i := 13) rfl) w_2 w_471 (by decide +kernel) rfl ⟨(Nat.le_of_ble_eq_true rfl), (Nat.le_of_ble_eq_true rfl)⟩ [] rfl rfl (Nat.le_of_ble_eq_true rfl) dX5_pass_18 ⟨(Nat.le_of_ble_eq_true rfl), (Nat.le_of_ble_eq_true rfl)⟩ rfl (fun r w1 H locs hQ V => ?_)
        rcases hQ with ⟨rfl, rfl, f_31⟩ | ⟨rfl, rfl, f_32⟩
        · have V : gW D T A s [(a0, .inr (5, [.int (nI an), .int am, .int al, .int ao, .int au, .ref a1, .ref a2, .ref a3, .ref a4, .ref a5, .ref a6, .ref a7, .ref a8, .ref a9, .ref a10])), (a1, .inl (T 0, 10, .inl af1)), (a2, .inl (T 0, 10, .inl af2)), (a3, .inl (T 0, 10, .inl af3)), (a4, .inl (T 0, 10, .inl af4)), (a5, .inl (T 0, 10, .inl af5)), (a6, .inl (T 0, 10, .inl af6)), (a7, .inl (T 0, 10, .inl ga)), (a8, .inl (T 0, 10, .inl af8)), (a9, .inl (T 0, 10, .inl af9)), (a10, .inl (T 0, 10, .inl af10))] H locs := V _ [] rfl rfl rfl (by decide +kernel) rfl
          show W p l e _ s m args below meth c H locs _ _ _ (F0 m 21 ls [.int (nI 1)])
          refine lv_if_eq (tgt := 47) hx hb dX5_pass_21 (by decide) (fun c => absurd (show (nI 1) = 0 from c) (by decide +kernel)) (fun _ => ?_)
          refine lv_aload_n hx hb dX5_pass_24 rfl (lv_at hl 2 rfl) ?_
          refine lv_iload hx hb dX5_pass_25 (lv_at hl 0 rfl) ?_
          refine g_callVU (nA := 1) hC V hl.1 (s_canStrike l D T a0 k6 an am al ao au a1 a2 a3 a4 a5 a6 a7 a8 a9 a10 af3 af4 af5 af6 ga (by first | assumption | omega)) w_473 w_474 w_475 w_3 w_476 (by decide +kernel) rfl ⟨(Nat.le_of_ble_eq_true rfl), (Nat.le_of_ble_eq_true rfl)⟩ 0 (ci := 5) rfl rfl [0, 3, 4, 5, 6, 7] rfl rfl (Nat.le_of_ble_eq_true rfl) dX5_pass_27 ⟨(Nat.le_of_ble_eq_true rfl), (Nat.le_of_ble_eq_true rfl)⟩ rfl (fun r w1 H locs hQ V => ?_)
          rcases hQ with ⟨rfl, rfl, f_33, f_34, f_35⟩ | ⟨rfl, rfl, f_36⟩
          · have V : gW D T A s [(a0, .inr (5, [.int (nI an), .int am, .int al, .int ao, .int au, .ref a1, .ref a2, .ref a3, .ref a4, .ref a5, .ref a6, .ref a7, .ref a8, .ref a9, .ref a10])), (a1, .inl (T 0, 10, .inl af1)), (a2, .inl (T 0, 10, .inl af2)), (a3, .inl (T 0, 10, .inl af3)), (a4, .inl (T 0, 10, .inl af4)), (a5, .inl (T 0, 10, .inl af5)), (a6, .inl (T 0, 10, .inl af6)), (a7, .inl (T 0, 10, .inl ga)), (a8, .inl (T 0, 10, .inl af8)), (a9, .inl (T 0, 10, .inl af9)), (a10, .inl (T 0, 10, .inl af10))] H locs := V _ [0, 2, 0, 0, 0, 0] rfl rfl rfl (by decide +kernel) rfl
            show W p l e _ s m args below meth c H locs _ _ _ (F0 m 30 ls [.int (nI 1)])
            have hsp : strP fa sk k6 := sC_y (hU k6 (Nat.le_refl _)) (h_s6 _ (by omega)) (h_s3 _ (by omega)) (h_s4 _ (by omega)) (h_s5 _ (by omega)) f_31 f_33 f_34 f_35
            refine lv_if_eq (tgt := 47) hx hb dX5_pass_30 (by decide) (fun c => absurd (show (nI 1) = 0 from c) (by decide +kernel)) (fun _ => ?_)
            refine lv_aload_n hx hb dX5_pass_33 rfl (lv_at hl 2 rfl) ?_
            refine g_get hC V (ci := 5) uwX5 0 rfl rfl 11 (by decide) w_77 rfl rfl dX5_pass_34 ?_
            refine lv_iload hx hb dX5_pass_37 (lv_at hl 0 rfl) ?_
            refine lv_dup2_11 hx hb dX5_pass_39 rfl rfl ?_
            refine g_iald hC V 7 rfl (vp_in_nI (by omega) (by omega)) (v := (ga k6)) (congrArg _ (nI_clamp (by omega))) dX5_pass_40 ?_
            refine lv_iconst (v := (nI 1)) hx hb dX5_pass_41 (by decide +kernel) ?_
            refine lv_iadd hx hb dX5_pass_42 ?_
            refine g_iast hC V 7 rfl (vp_in_nI (by omega) (by omega)) (f' := (upd ga k6 ((ga k6) + (nI 1)))) (by rw [nI_clamp (by omega)]) (ws' := [(a0, .inr (5, [.int (nI an), .int am, .int al, .int ao, .int au, .ref a1, .ref a2, .ref a3, .ref a4, .ref a5, .ref a6, .ref a7, .ref a8, .ref a9, .ref a10])), (a1, .inl (T 0, 10, .inl af1)), (a2, .inl (T 0, 10, .inl af2)), (a3, .inl (T 0, 10, .inl af3)), (a4, .inl (T 0, 10, .inl af4)), (a5, .inl (T 0, 10, .inl af5)), (a6, .inl (T 0, 10, .inl af6)), (a7, .inl (T 0, 10, .inl (upd ga k6 ((ga k6) + (nI 1))))), (a8, .inl (T 0, 10, .inl af8)), (a9, .inl (T 0, 10, .inl af9)), (a10, .inl (T 0, 10, .inl af10))]) rfl dX5_pass_43 (fun H locs V => ?_)
            refine lv_iinc (v := (x5 + 1)) (lv' := [(5, .int (x5 + 1)), (6, .int (nI k6)), (0, .ref a0), (1, .int pl), (2, .int sk), (3, .int sf), (4, .int sb)]) hx hb dX5_pass_44 hl (k := 1) rfl rfl (by decide) rfl (fun ls hl => ?_)
            refine lv_iinc (v := (nI (k6 + 1))) (lv' := [(6, .int (nI (k6 + 1))), (5, .int (x5 + 1)), (0, .ref a0), (1, .int pl), (2, .int sk), (3, .int sf), (4, .int sb)]) hx hb dX5_pass_47 hl (k := 1) rfl (nI_1 _) (by decide) rfl (fun ls hl => ?_)
            refine lv_goto (tgt := 6) hx hb dX5_pass_50 (by decide) ?_
            exact ih_6 (k6 + 1) (x5 + 1) (upd ga k6 ((ga k6) + (nI 1))) (by omega) (c7_y (g0 := af7) hB (hU k6 (Nat.le_refl _)) hsp) (fun i h1 h2 => (up_other (by omega)).trans (hUU i (by omega) h2)) (by rw [hCn]; exact gC_y hsp) (by omega) _ _ _ V (lv_sub hl [0, 1, 2, 3, 4, 5, 6] rfl)
          · have V : gW D T A s [(a0, .inr (5, [.int (nI an), .int am, .int al, .int ao, .int au, .ref a1, .ref a2, .ref a3, .ref a4, .ref a5, .ref a6, .ref a7, .ref a8, .ref a9, .ref a10])), (a1, .inl (T 0, 10, .inl af1)), (a2, .inl (T 0, 10, .inl af2)), (a3, .inl (T 0, 10, .inl af3)), (a4, .inl (T 0, 10, .inl af4)), (a5, .inl (T 0, 10, .inl af5)), (a6, .inl (T 0, 10, .inl af6)), (a7, .inl (T 0, 10, .inl ga)), (a8, .inl (T 0, 10, .inl af8)), (a9, .inl (T 0, 10, .inl af9)), (a10, .inl (T 0, 10, .inl af10))] H locs := V _ [0, 2, 0, 0, 0, 0] rfl rfl rfl (by decide +kernel) rfl
            show W p l e _ s m args below meth c H locs _ _ _ (F0 m 30 ls [.int (nI 0)])
            have hsp : ¬ strP fa sk k6 := sC_n (hU k6 (Nat.le_refl _)) (h_s6 _ (by omega)) (h_s3 _ (by omega)) (h_s4 _ (by omega)) (h_s5 _ (by omega)) f_36
            refine lv_if_eq (tgt := 47) hx hb dX5_pass_30 (by decide) (fun _ => ?_) (fun c => absurd (show (nI 0) = 0 by decide +kernel) c)
            refine lv_iinc (v := (nI (k6 + 1))) (lv' := [(6, .int (nI (k6 + 1))), (5, .int x5), (0, .ref a0), (1, .int pl), (2, .int sk), (3, .int sf), (4, .int sb)]) hx hb dX5_pass_47 hl (k := 0) rfl (nI_1 _) (by decide) rfl (fun ls hl => ?_)
            refine lv_goto (tgt := 6) hx hb dX5_pass_50 (by decide) ?_
            exact ih_6 (k6 + 1) x5 ga (by omega) (c7_n hB (hU k6 (Nat.le_refl _)) hsp) (fun i h1 h2 => hUU i (by omega) h2) (by rw [hCn]; exact gC_n hsp) (by omega) _ _ _ V (lv_sub hl [0, 1, 2, 3, 4, 5, 6] rfl)
        · have V : gW D T A s [(a0, .inr (5, [.int (nI an), .int am, .int al, .int ao, .int au, .ref a1, .ref a2, .ref a3, .ref a4, .ref a5, .ref a6, .ref a7, .ref a8, .ref a9, .ref a10])), (a1, .inl (T 0, 10, .inl af1)), (a2, .inl (T 0, 10, .inl af2)), (a3, .inl (T 0, 10, .inl af3)), (a4, .inl (T 0, 10, .inl af4)), (a5, .inl (T 0, 10, .inl af5)), (a6, .inl (T 0, 10, .inl af6)), (a7, .inl (T 0, 10, .inl ga)), (a8, .inl (T 0, 10, .inl af8)), (a9, .inl (T 0, 10, .inl af9)), (a10, .inl (T 0, 10, .inl af10))] H locs := V _ [] rfl rfl rfl (by decide +kernel) rfl
          show W p l e _ s m args below meth c H locs _ _ _ (F0 m 21 ls [.int (nI 0)])
          have hsp : ¬ strP fa sk k6 := fun q => f_32 q.1
          refine lv_if_eq (tgt := 47) hx hb dX5_pass_21 (by decide) (fun _ => ?_) (fun c => absurd (show (nI 0) = 0 by decide +kernel) c)
          refine lv_iinc (v := (nI (k6 + 1))) (lv' := [(6, .int (nI (k6 + 1))), (5, .int x5), (0, .ref a0), (1, .int pl), (2, .int sk), (3, .int sf), (4, .int sb)]) hx hb dX5_pass_47 hl (k := 0) rfl (nI_1 _) (by decide) rfl (fun ls hl => ?_)
          refine lv_goto (tgt := 6) hx hb dX5_pass_50 (by decide) ?_
          exact ih_6 (k6 + 1) x5 ga (by omega) (c7_n hB (hU k6 (Nat.le_refl _)) hsp) (fun i h1 h2 => hUU i (by omega) h2) (by rw [hCn]; exact gC_n hsp) (by omega) _ _ _ V (lv_sub hl [0, 1, 2, 3, 4, 5, 6] rfl)
  exact L_1 _ 0 (nI 0) af7 (by omega) (fun i h => absurd h (Nat.not_lt_zero _)) (fun i _ h => h_s7 i h) rfl (Nat.lt_succ_self _) _ _ _ V (lv_sub hl [0, 1, 2, 3, 4, 5, 6] rfl)
