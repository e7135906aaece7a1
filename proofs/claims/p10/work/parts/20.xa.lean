def q_x_smith (T : Nat → ClassId) (o : Nat) (i : Int32) (wh : Int32) (n0 : Nat) (s0 : Nat) (im : Nat) (iz : Nat) (rw : Nat) (t0 : Nat) (u0 : Nat) (h0 : Nat) (y0 : Nat) (sv : Value) (nn : Nat) (nm : Int32) (nl : Int32) (no : Int32) (nu : Int32) (n1 : Nat) (n2 : Nat) (n3 : Nat) (n4 : Nat) (n5 : Nat) (n6 : Nat) (n7 : Nat) (n8 : Nat) (n9 : Nat) (n10 : Nat) (nf1 : Nat → Int32) (nf2 : Nat → Int32) (nf3 : Nat → Int32) (nf4 : Nat → Int32) (nf5 : Nat → Int32) (nf6 : Nat → Int32) (nf7 : Nat → Int32) (nf8 : Nat → Int32) (nf9 : Nat → Int32) : Option Value → va_W → Prop := fun rr ww => (∃ (z : Int32), rr = some (.int z) ∧ ww = [(o, .inr (7, [.ref n0, .ref s0, .ref im, .ref iz, .ref rw, .ref t0, .ref u0, .ref h0, .ref y0, sv])), (n0, .inr (5, [.int (nI nn), .int nm, .int nl, .int no, .int nu, .ref n1, .ref n2, .ref n3, .ref n4, .ref n5, .ref n6, .ref n7, .ref n8, .ref n9, .ref n10])), (n1, .inl (T 0, 10, .inl nf1)), (n2, .inl (T 0, 10, .inl nf2)), (n3, .inl (T 0, 10, .inl nf3)), (n4, .inl (T 0, 10, .inl nf4)), (n5, .inl (T 0, 10, .inl nf5)), (n6, .inl (T 0, 10, .inl nf6)), (n7, .inl (T 0, 10, .inl nf7)), (n8, .inl (T 0, 10, .inl nf8)), (n9, .inl (T 0, 10, .inl nf9))])
set_option maxHeartbeats 4000000 in
set_option maxRecDepth 100000 in
theorem x_smith (l : Launch) (D : va_G) (T : Nat → ClassId) (o : Nat) (i : Int32) (wh : Int32) (n0 : Nat) (s0 : Nat) (im : Nat) (iz : Nat) (rw : Nat) (t0 : Nat) (u0 : Nat) (h0 : Nat) (y0 : Nat) (sv : Value) (nn : Nat) (nm : Int32) (nl : Int32) (no : Int32) (nu : Int32) (n1 : Nat) (n2 : Nat) (n3 : Nat) (n4 : Nat) (n5 : Nat) (n6 : Nat) (n7 : Nat) (n8 : Nat) (n9 : Nat) (n10 : Nat) (nf1 : Nat → Int32) (nf2 : Nat → Int32) (nf3 : Nat → Int32) (nf4 : Nat → Int32) (nf5 : Nat → Int32) (nf6 : Nat → Int32) (nf7 : Nat → Int32) (nf8 : Nat → Int32) (nf9 : Nat → Int32) (h_n : nn ≤ 10) : Ct l yX7_smith cX7_smith 3 (some .int) 1 0 0 D T [.ref o, .int i, .int wh] [(o, .inr (7, [.ref n0, .ref s0, .ref im, .ref iz, .ref rw, .ref t0, .ref u0, .ref h0, .ref y0, sv])), (n0, .inr (5, [.int (nI nn), .int nm, .int nl, .int no, .int nu, .ref n1, .ref n2, .ref n3, .ref n4, .ref n5, .ref n6, .ref n7, .ref n8, .ref n9, .ref n10])), (n1, .inl (T 0, 10, .inl nf1)), (n2, .inl (T 0, 10, .inl nf2)), (n3, .inl (T 0, 10, .inl nf3)), (n4, .inl (T 0, 10, .inl nf4)), (n5, .inl (T 0, 10, .inl nf5)), (n6, .inl (T 0, 10, .inl nf6)), (n7, .inl (T 0, 10, .inl nf7)), (n8, .inl (T 0, 10, .inl nf8)), (n9, .inl (T 0, 10, .inl nf9))] (q_x_smith T o i wh n0 s0 im iz rw t0 u0 h0 y0 sv nn nm nl no nu n1 n2 n3 n4 n5 n6 n7 n8 n9 n10 nf1 nf2 nf3 nf4 nf5 nf6 nf7 nf8 nf9) := by
  refine Ct.of (cc := cX7_smith) (maxL := 3) (ret := (some .int)) (by decide) (Nat.le_of_ble_eq_true rfl) ?_
  intro p e s m args below meth c A ls hC hnm V hl
  obtain ⟨hx, hb, hr, hml, hown, hts, hlocks⟩ := id hC
  generalize hH : s.heap = H at V ⊢
  clear hH
  have hl : lv_has ls 3 [(0, .ref o), (1, .int i), (2, .int wh)] := hl
  generalize hlo : ([] : List Loc) = locs at V ⊢
  clear hlo
  refine lv_aload_n hx hb dX7_smith_0 rfl (lv_at hl 0 rfl) ?_
  refine g_get hC V (ci := 7) uwX7 0 rfl rfl 0 (by decide) w_249 rfl rfl dX7_smith_1 ?_
  refine lv_iload_n hx hb dX7_smith_4 rfl (lv_at hl 1 rfl) ?_
  refine g_callVU (nA := 1) hC V hl.1 (s_isSmith l D T n0 i nn nm nl no nu n1 n2 n3 n4 n5 n6 n7 n8 n9 n10 (by first | assumption | omega)) w_425 w_426 w_427 w_3 w_428 (by decide +kernel) rfl ⟨(Nat.le_of_ble_eq_true rfl), (Nat.le_of_ble_eq_true rfl)⟩ 1 (ci := 5) rfl rfl [1] rfl rfl (Nat.le_of_ble_eq_true rfl) dX7_smith_5 ⟨(Nat.le_of_ble_eq_true rfl), (Nat.le_of_ble_eq_true rfl)⟩ rfl (fun r w1 H locs hQ V => ?_)
  rcases hQ with ⟨j_1, rfl, rfl, f_2, f_3⟩ | ⟨rfl, rfl, f_4⟩
  · have V : gW D T A s [(o, .inr (7, [.ref n0, .ref s0, .ref im, .ref iz, .ref rw, .ref t0, .ref u0, .ref h0, .ref y0, sv])), (n0, .inr (5, [.int (nI nn), .int nm, .int nl, .int no, .int nu, .ref n1, .ref n2, .ref n3, .ref n4, .ref n5, .ref n6, .ref n7, .ref n8, .ref n9, .ref n10])), (n1, .inl (T 0, 10, .inl nf1)), (n2, .inl (T 0, 10, .inl nf2)), (n3, .inl (T 0, 10, .inl nf3)), (n4, .inl (T 0, 10, .inl nf4)), (n5, .inl (T 0, 10, .inl nf5)), (n6, .inl (T 0, 10, .inl nf6)), (n7, .inl (T 0, 10, .inl nf7)), (n8, .inl (T 0, 10, .inl nf8)), (n9, .inl (T 0, 10, .inl nf9))] H locs := V _ [1] rfl rfl rfl (by decide +kernel) rfl
    show W p l e _ s m args below meth c H locs _ _ _ (F0 m 8 ls [.int (nI 1)])
    rw [f_2] at hl
    refine lv_if_ne (tgt := 14) hx hb dX7_smith_8 (by decide) (fun _ => ?_) (fun c => absurd (show (nI 1) = 0 from c) (by decide +kernel))
    refine lv_iload_n hx hb dX7_smith_14 rfl (lv_at hl 2 rfl) ?_
    by_cases c_50 : wh = (nI 0)
    · skip
      refine lv_tableIn (tgt := 68) (off := 53) hx hb dX7_smith_15 (by first | decide +kernel | (rw [c_50]; decide +kernel)) (by first | decide +kernel | (rw [c_50]; decide +kernel)) (by first | decide +kernel | (rw [c_50]; decide +kernel)) (by decide) ?_
      refine lv_aload_n hx hb dX7_smith_68 rfl (lv_at hl 0 rfl) ?_
      refine g_get hC V (ci := 7) uwX7 0 rfl rfl 0 (by decide) w_249 rfl rfl dX7_smith_69 ?_
      refine g_get hC V (ci := 5) uwX5 1 rfl rfl 5 (by decide) w_54 rfl rfl dX7_smith_72 ?_
      refine lv_iload_n hx hb dX7_smith_75 rfl (lv_at hl 1 rfl) ?_
      refine g_iald hC V 2 rfl (vp_in_nI (by omega) (by omega)) (v := (nf1 j_1)) (congrArg _ (nI_clamp (by omega))) dX7_smith_76 ?_
      exact g_iret (Qr := (q_x_smith T o i wh n0 s0 im iz rw t0 u0 h0 y0 sv nn nm nl no nu n1 n2 n3 n4 n5 n6 n7 n8 n9 n10 nf1 nf2 nf3 nf4 nf5 nf6 nf7 nf8 nf9)) hC V ⟨(Nat.le_of_ble_eq_true rfl), (Nat.le_of_ble_eq_true rfl)⟩ ⟨(nf1 j_1), rfl, rfl⟩ dX7_smith_77
    by_cases c_51 : wh = (nI 1)
    · skip
      refine lv_tableIn (tgt := 78) (off := 63) hx hb dX7_smith_15 (by first | decide +kernel | (rw [c_51]; decide +kernel)) (by first | decide +kernel | (rw [c_51]; decide +kernel)) (by first | decide +kernel | (rw [c_51]; decide +kernel)) (by decide) ?_
      refine lv_aload_n hx hb dX7_smith_78 rfl (lv_at hl 0 rfl) ?_
      refine g_get hC V (ci := 7) uwX7 0 rfl rfl 0 (by decide) w_249 rfl rfl dX7_smith_79 ?_
      refine g_get hC V (ci := 5) uwX5 1 rfl rfl 6 (by decide) w_60 rfl rfl dX7_smith_82 ?_
      refine lv_iload_n hx hb dX7_smith_85 rfl (lv_at hl 1 rfl) ?_
      refine g_iald hC V 3 rfl (vp_in_nI (by omega) (by omega)) (v := (nf2 j_1)) (congrArg _ (nI_clamp (by omega))) dX7_smith_86 ?_
      exact g_iret (Qr := (q_x_smith T o i wh n0 s0 im iz rw t0 u0 h0 y0 sv nn nm nl no nu n1 n2 n3 n4 n5 n6 n7 n8 n9 n10 nf1 nf2 nf3 nf4 nf5 nf6 nf7 nf8 nf9)) hC V ⟨(Nat.le_of_ble_eq_true rfl), (Nat.le_of_ble_eq_true rfl)⟩ ⟨(nf2 j_1), rfl, rfl⟩ dX7_smith_87
    by_cases c_52 : wh = (nI 2)
    · skip
      refine lv_tableIn (tgt := 88) (off := 73) hx hb dX7_smith_15 (by first | decide +kernel | (rw [c_52]; decide +kernel)) (by first | decide +kernel | (rw [c_52]; decide +kernel)) (by first | decide +kernel | (rw [c_52]; decide +kernel)) (by decide) ?_
      refine lv_aload_n hx hb dX7_smith_88 rfl (lv_at hl 0 rfl) ?_
      refine g_get hC V (ci := 7) uwX7 0 rfl rfl 0 (by decide) w_249 rfl rfl dX7_smith_89 ?_
      refine g_get hC V (ci := 5) uwX5 1 rfl rfl 7 (by decide) w_65 rfl rfl dX7_smith_92 ?_
      refine lv_iload_n hx hb dX7_smith_95 rfl (lv_at hl 1 rfl) ?_
      refine g_iald hC V 4 rfl (vp_in_nI (by omega) (by omega)) (v := (nf3 j_1)) (congrArg _ (nI_clamp (by omega))) dX7_smith_96 ?_
      exact g_iret (Qr := (q_x_smith T o i wh n0 s0 im iz rw t0 u0 h0 y0 sv nn nm nl no nu n1 n2 n3 n4 n5 n6 n7 n8 n9 n10 nf1 nf2 nf3 nf4 nf5 nf6 nf7 nf8 nf9)) hC V ⟨(Nat.le_of_ble_eq_true rfl), (Nat.le_of_ble_eq_true rfl)⟩ ⟨(nf3 j_1), rfl, rfl⟩ dX7_smith_97
    by_cases c_53 : wh = (nI 3)
    · skip
      refine lv_tableIn (tgt := 98) (off := 83) hx hb dX7_smith_15 (by first | decide +kernel | (rw [c_53]; decide +kernel)) (by first | decide +kernel | (rw [c_53]; decide +kernel)) (by first | decide +kernel | (rw [c_53]; decide +kernel)) (by decide) ?_
      refine lv_aload_n hx hb dX7_smith_98 rfl (lv_at hl 0 rfl) ?_
      refine g_get hC V (ci := 7) uwX7 0 rfl rfl 0 (by decide) w_249 rfl rfl dX7_smith_99 ?_
      refine g_get hC V (ci := 5) uwX5 1 rfl rfl 8 (by decide) w_69 rfl rfl dX7_smith_102 ?_
      refine lv_iload_n hx hb dX7_smith_105 rfl (lv_at hl 1 rfl) ?_
      refine g_iald hC V 5 rfl (vp_in_nI (by omega) (by omega)) (v := (nf4 j_1)) (congrArg _ (nI_clamp (by omega))) dX7_smith_106 ?_
      exact g_iret (Qr := (q_x_smith T o i wh n0 s0 im iz rw t0 u0 h0 y0 sv nn nm nl no nu n1 n2 n3 n4 n5 n6 n7 n8 n9 n10 nf1 nf2 nf3 nf4 nf5 nf6 nf7 nf8 nf9)) hC V ⟨(Nat.le_of_ble_eq_true rfl), (Nat.le_of_ble_eq_true rfl)⟩ ⟨(nf4 j_1), rfl, rfl⟩ dX7_smith_107
    by_cases c_54 : wh = (nI 4)
    · skip
      refine lv_tableIn (tgt := 108) (off := 93) hx hb dX7_smith_15 (by first | decide +kernel | (rw [c_54]; decide +kernel)) (by first | decide +kernel | (rw [c_54]; decide +kernel)) (by first | decide +kernel | (rw [c_54]; decide +kernel)) (by decide) ?_
      refine lv_aload_n hx hb dX7_smith_108 rfl (lv_at hl 0 rfl) ?_
      refine g_get hC V (ci := 7) uwX7 0 rfl rfl 0 (by decide) w_249 rfl rfl dX7_smith_109 ?_
      refine g_get hC V (ci := 5) uwX5 1 rfl rfl 9 (by decide) w_72 rfl rfl dX7_smith_112 ?_
      refine lv_iload_n hx hb dX7_smith_115 rfl (lv_at hl 1 rfl) ?_
      refine g_iald hC V 6 rfl (vp_in_nI (by omega) (by omega)) (v := (nf5 j_1)) (congrArg _ (nI_clamp (by omega))) dX7_smith_116 ?_
      exact g_iret (Qr := (q_x_smith T o i wh n0 s0 im iz rw t0 u0 h0 y0 sv nn nm nl no nu n1 n2 n3 n4 n5 n6 n7 n8 n9 n10 nf1 nf2 nf3 nf4 nf5 nf6 nf7 nf8 nf9)) hC V ⟨(Nat.le_of_ble_eq_true rfl), (Nat.le_of_ble_eq_true rfl)⟩ ⟨(nf5 j_1), rfl, rfl⟩ dX7_smith_117
    by_cases c_55 : wh = (nI 5)
    · skip
      refine lv_tableIn (tgt := 118) (off := 103) hx hb dX7_smith_15 (by first | decide +kernel | (rw [c_55]; decide +kernel)) (by first | decide +kernel | (rw [c_55]; decide +kernel)) (by first | decide +kernel | (rw [c_55]; decide +kernel)) (by decide) ?_
      refine lv_aload_n hx hb dX7_smith_118 rfl (lv_at hl 0 rfl) ?_
      refine g_get hC V (ci := 7) uwX7 0 rfl rfl 0 (by decide) w_249 rfl rfl dX7_smith_119 ?_
      refine g_get hC V (ci := 5) uwX5 1 rfl rfl 10 (by decide) w_76 rfl rfl dX7_smith_122 ?_
      refine lv_iload_n hx hb dX7_smith_125 rfl (lv_at hl 1 rfl) ?_
      refine g_iald hC V 7 rfl (vp_in_nI (by omega) (by omega)) (v := (nf6 j_1)) (congrArg _ (nI_clamp (by omega))) dX7_smith_126 ?_
      exact g_iret (Qr := (q_x_smith T o i wh n0 s0 im iz rw t0 u0 h0 y0 sv nn nm nl no nu n1 n2 n3 n4 n5 n6 n7 n8 n9 n10 nf1 nf2 nf3 nf4 nf5 nf6 nf7 nf8 nf9)) hC V ⟨(Nat.le_of_ble_eq_true rfl), (Nat.le_of_ble_eq_true rfl)⟩ ⟨(nf6 j_1), rfl, rfl⟩ dX7_smith_127
    by_cases c_56 : wh = (nI 6)
    · skip
      refine lv_tableIn (tgt := 128) (off := 113) hx hb dX7_smith_15 (by first | decide +kernel | (rw [c_56]; decide +kernel)) (by first | decide +kernel | (rw [c_56]; decide +kernel)) (by first | decide +kernel | (rw [c_56]; decide +kernel)) (by decide) ?_
      refine lv_aload_n hx hb dX7_smith_128 rfl (lv_at hl 0 rfl) ?_
      refine g_get hC V (ci := 7) uwX7 0 rfl rfl 0 (by decide) w_249 rfl rfl dX7_smith_129 ?_
      refine g_get hC V (ci := 5) uwX5 1 rfl rfl 11 (by decide) w_79 rfl rfl dX7_smith_132 ?_
      refine lv_iload_n hx hb dX7_smith_135 rfl (lv_at hl 1 rfl) ?_
      refine g_iald hC V 8 rfl (vp_in_nI (by omega) (by omega)) (v := (nf7 j_1)) (congrArg _ (nI_clamp (by omega))) dX7_smith_136 ?_
      exact g_iret (Qr := (q_x_smith T o i wh n0 s0 im iz rw t0 u0 h0 y0 sv nn nm nl no nu n1 n2 n3 n4 n5 n6 n7 n8 n9 n10 nf1 nf2 nf3 nf4 nf5 nf6 nf7 nf8 nf9)) hC V ⟨(Nat.le_of_ble_eq_true rfl), (Nat.le_of_ble_eq_true rfl)⟩ ⟨(nf7 j_1), rfl, rfl⟩ dX7_smith_137
    by_cases c_57 : wh = (nI 7)
    · skip
      refine lv_tableIn (tgt := 138) (off := 123) hx hb dX7_smith_15 (by first | decide +kernel | (rw [c_57]; decide +kernel)) (by first | decide +kernel | (rw [c_57]; decide +kernel)) (by first | decide +kernel | (rw [c_57]; decide +kernel)) (by decide) ?_
      refine lv_aload_n hx hb dX7_smith_138 rfl (lv_at hl 0 rfl) ?_
      refine g_get hC V (ci := 7) uwX7 0 rfl rfl 0 (by decide) w_249 rfl rfl dX7_smith_139 ?_
      refine g_get hC V (ci := 5) uwX5 1 rfl rfl 12 (by decide) w_81 rfl rfl dX7_smith_142 ?_
      refine lv_iload_n hx hb dX7_smith_145 rfl (lv_at hl 1 rfl) ?_
      refine g_iald hC V 9 rfl (vp_in_nI (by omega) (by omega)) (v := (nf8 j_1)) (congrArg _ (nI_clamp (by omega))) dX7_smith_146 ?_
      exact g_iret (Qr := (q_x_smith T o i wh n0 s0 im iz rw t0 u0 h0 y0 sv nn nm nl no nu n1 n2 n3 n4 n5 n6 n7 n8 n9 n10 nf1 nf2 nf3 nf4 nf5 nf6 nf7 nf8 nf9)) hC V ⟨(Nat.le_of_ble_eq_true rfl), (Nat.le_of_ble_eq_true rfl)⟩ ⟨(nf8 j_1), rfl, rfl⟩ dX7_smith_147
    by_cases c_58 : wh = (nI 8)
    · skip
      refine lv_tableIn (tgt := 148) (off := 133) hx hb dX7_smith_15 (by first | decide +kernel | (rw [c_58]; decide +kernel)) (by first | decide +kernel | (rw [c_58]; decide +kernel)) (by first | decide +kernel | (rw [c_58]; decide +kernel)) (by decide) ?_
      refine lv_aload_n hx hb dX7_smith_148 rfl (lv_at hl 0 rfl) ?_
      refine g_get hC V (ci := 7) uwX7 0 rfl rfl 0 (by decide) w_249 rfl rfl dX7_smith_149 ?_
      refine g_get hC V (ci := 5) uwX5 1 rfl rfl 13 (by decide) w_84 rfl rfl dX7_smith_152 ?_
      refine lv_iload_n hx hb dX7_smith_155 rfl (lv_at hl 1 rfl) ?_
      refine g_iald hC V 10 rfl (vp_in_nI (by omega) (by omega)) (v := (nf9 j_1)) (congrArg _ (nI_clamp (by omega))) dX7_smith_156 ?_
      exact g_iret (Qr := (q_x_smith T o i wh n0 s0 im iz rw t0 u0 h0 y0 sv nn nm nl no nu n1 n2 n3 n4 n5 n6 n7 n8 n9 n10 nf1 nf2 nf3 nf4 nf5 nf6 nf7 nf8 nf9)) hC V ⟨(Nat.le_of_ble_eq_true rfl), (Nat.le_of_ble_eq_true rfl)⟩ ⟨(nf9 j_1), rfl, rfl⟩ dX7_smith_157
    by_cases c_59 : wh = (nI 9)
    · skip
      refine lv_tableIn (tgt := 158) (off := 143) hx hb dX7_smith_15 (by first | decide +kernel | (rw [c_59]; decide +kernel)) (by first | decide +kernel | (rw [c_59]; decide +kernel)) (by first | decide +kernel | (rw [c_59]; decide +kernel)) (by decide) ?_
      refine lv_aload_n hx hb dX7_smith_158 rfl (lv_at hl 0 rfl) ?_
      refine g_get hC V (ci := 7) uwX7 0 rfl rfl 0 (by decide) w_249 rfl rfl dX7_smith_159 ?_
      refine lv_iload_n hx hb dX7_smith_162 rfl (lv_at hl 1 rfl) ?_
      refine g_callVU (nA := 1) hC V hl.1 (s_isDone l D T n0 j_1 nn nm nl no nu n1 n2 n3 n4 n5 n6 n7 n8 n9 n10 nf6 nf7 (by first | assumption | omega)) w_429 w_430 w_431 w_3 w_432 (by decide +kernel) rfl ⟨(Nat.le_of_ble_eq_true rfl), (Nat.le_of_ble_eq_true rfl)⟩ 1 (ci := 5) rfl rfl [1, 7, 8] rfl rfl (Nat.le_of_ble_eq_true rfl) dX7_smith_163 ⟨(Nat.le_of_ble_eq_true rfl), (Nat.le_of_ble_eq_true rfl)⟩ rfl (fun r w1 H locs hQ V => ?_)
      rcases hQ with ⟨rfl, rfl, f_6⟩ | ⟨rfl, rfl, f_7⟩
      · have V : gW D T A s [(o, .inr (7, [.ref n0, .ref s0, .ref im, .ref iz, .ref rw, .ref t0, .ref u0, .ref h0, .ref y0, sv])), (n0, .inr (5, [.int (nI nn), .int nm, .int nl, .int no, .int nu, .ref n1, .ref n2, .ref n3, .ref n4, .ref n5, .ref n6, .ref n7, .ref n8, .ref n9, .ref n10])), (n1, .inl (T 0, 10, .inl nf1)), (n2, .inl (T 0, 10, .inl nf2)), (n3, .inl (T 0, 10, .inl nf3)), (n4, .inl (T 0, 10, .inl nf4)), (n5, .inl (T 0, 10, .inl nf5)), (n6, .inl (T 0, 10, .inl nf6)), (n7, .inl (T 0, 10, .inl nf7)), (n8, .inl (T 0, 10, .inl nf8)), (n9, .inl (T 0, 10, .inl nf9))] H locs := V _ [1, 5, 0] rfl rfl rfl (by decide +kernel) rfl
        show W p l e _ s m args below meth c H locs _ _ _ (F0 m 166 ls [.int (nI 1)])
        refine lv_if_eq (tgt := 173) hx hb dX7_smith_166 (by decide) (fun c => absurd (show (nI 1) = 0 from c) (by decide +kernel)) (fun _ => ?_)
        refine lv_iconst (v := (nI 1)) hx hb dX7_smith_169 (by decide +kernel) ?_
        refine lv_goto (tgt := 174) hx hb dX7_smith_170 (by decide) ?_
        exact g_iret (Qr := (q_x_smith T o i wh n0 s0 im iz rw t0 u0 h0 y0 sv nn nm nl no nu n1 n2 n3 n4 n5 n6 n7 n8 n9 n10 nf1 nf2 nf3 nf4 nf5 nf6 nf7 nf8 nf9)) hC V ⟨(Nat.le_of_ble_eq_true rfl), (Nat.le_of_ble_eq_true rfl)⟩ ⟨(nI 1), rfl, rfl⟩ dX7_smith_174
      · have V : gW D T A s [(o, .inr (7, [.ref n0, .ref s0, .ref im, .ref iz, .ref rw, .ref t0, .ref u0, .ref h0, .ref y0, sv])), (n0, .inr (5, [.int (nI nn), .int nm, .int nl, .int no, .int nu, .ref n1, .ref n2, .ref n3, .ref n4, .ref n5, .ref n6, .ref n7, .ref n8, .ref n9, .ref n10])), (n1, .inl (T 0, 10, .inl nf1)), (n2, .inl (T 0, 10, .inl nf2)), (n3, .inl (T 0, 10, .inl nf3)), (n4, .inl (T 0, 10, .inl nf4)), (n5, .inl (T 0, 10, .inl nf5)), (n6, .inl (T 0, 10, .inl nf6)), (n7, .inl (T 0, 10, .inl nf7)), (n8, .inl (T 0, 10, .inl nf8)), (n9, .inl (T 0, 10, .inl nf9))] H locs := V _ [1, 5, 0] rfl rfl rfl (by decide +kernel) rfl
        show W p l e _ s m args below meth c H locs _ _ _ (F0 m 166 ls [.int (nI 0)])
        refine lv_if_eq (tgt := 173) hx hb dX7_smith_166 (by decide) (fun _ => ?_) (fun c => absurd (show (nI 0) = 0 by decide +kernel) c)
        refine lv_iconst (v := (nI 0)) hx hb dX7_smith_173 (by decide +kernel) ?_
        exact g_iret (Qr := (q_x_smith T o i wh n0 s0 im iz rw t0 u0 h0 y0 sv nn nm nl no nu n1 n2 n3 n4 n5 n6 n7 n8 n9 n10 nf1 nf2 nf3 nf4 nf5 nf6 nf7 nf8 nf9)) hC V ⟨(Nat.le_of_ble_eq_true rfl), (Nat.le_of_ble_eq_true rfl)⟩ ⟨(nI 0), rfl, rfl⟩ dX7_smith_174
    refine lv_tableOut (tgt := 175) hx hb dX7_smith_15 (g_out 0 9 (fun k h1 h2 => ?_)) (by decide) ?_
    · intro h
      have h3 : k = 0 ∨ k = 1 ∨ k = 2 ∨ k = 3 ∨ k = 4 ∨ k = 5 ∨ k = 6 ∨ k = 7 ∨ k = 8 ∨ k = 9 := by omega
      rcases h3 with rfl | rfl | rfl | rfl | rfl | rfl | rfl | rfl | rfl | rfl
      · exact c_50 (g_out2 h (by decide +kernel))
      · exact c_51 (g_out2 h (by decide +kernel))
      · exact c_52 (g_out2 h (by decide +kernel))
      · exact c_53 (g_out2 h (by decide +kernel))
      · exact c_54 (g_out2 h (by decide +kernel))
      · exact c_55 (g_out2 h (by decide +kernel))
      · exact c_56 (g_out2 h (by decide +kernel))
      · exact c_57 (g_out2 h (by decide +kernel))
      · exact c_58 (g_out2 h (by decide +kernel))
      · exact c_59 (g_out2 h (by decide +kernel))
    refine lv_bipush (v := (-2)) hx hb dX7_smith_175 (by decide +kernel) ?_
    exact g_iret (Qr := (q_x_smith T o i wh n0 s0 im iz rw t0 u0 h0 y0 sv nn nm nl no nu n1 n2 n3 n4 n5 n6 n7 n8 n9 n10 nf1 nf2 nf3 nf4 nf5 nf6 nf7 nf8 nf9)) hC V ⟨(Nat.le_of_ble_eq_true rfl), (Nat.le_of_ble_eq_true rfl)⟩ ⟨(-2), rfl, rfl⟩ dX7_smith_177
  · have V : gW D T A s [(o, .inr (7, [.ref n0, .ref s0, .ref im, .ref iz, .ref rw, .ref t0, .ref u0, .ref h0, .ref y0, sv])), (n0, .inr (5, [.int (nI nn), .int nm, .int nl, .int no, .int nu, .ref n1, .ref n2, .ref n3, .ref n4, .ref n5, .ref n6, .ref n7, .ref n8, .ref n9, .ref n10])), (n1, .inl (T 0, 10, .inl nf1)), (n2, .inl (T 0, 10, .inl nf2)), (n3, .inl (T 0, 10, .inl nf3)), (n4, .inl (T 0, 10, .inl nf4)), (n5, .inl (T 0, 10, .inl nf5)), (n6, .inl (T 0, 10, .inl nf6)), (n7, .inl (T 0, 10, .inl nf7)), (n8, .inl (T 0, 10, .inl nf8)), (n9, .inl (T 0, 10, .inl nf9))] H locs := V _ [1] rfl rfl rfl (by decide +kernel) rfl
    show W p l e _ s m args below meth c H locs _ _ _ (F0 m 8 ls [.int (nI 0)])
    refine lv_if_ne (tgt := 14) hx hb dX7_smith_8 (by decide) (fun c => absurd (show (nI 0) = 0 by decide +kernel) c) (fun _ => ?_)
    refine lv_bipush (v := (-2)) hx hb dX7_smith_11 (by decide +kernel) ?_
    exact g_iret (Qr := (q_x_smith T o i wh n0 s0 im iz rw t0 u0 h0 y0 sv nn nm nl no nu n1 n2 n3 n4 n5 n6 n7 n8 n9 n10 nf1 nf2 nf3 nf4 nf5 nf6 nf7 nf8 nf9)) hC V ⟨(Nat.le_of_ble_eq_true rfl), (Nat.le_of_ble_eq_true rfl)⟩ ⟨(-2), rfl, rfl⟩ dX7_smith_13
